section
-- ===== PART A: goes FIRST, ahead of the names: the tables' words, and 'selects' of the private methods out of them =====
/-- a private method of a class that the tables say can be made, by its rows of tables_1 -/
def lw_okq (q : MethodName × Nat) : Prop := (q.1.cls ≠ "java/lang/invoke/MethodHandle" ∧ q.1.cls ≠ "java/lang/invoke/VarHandle") ∧ Cond.instantiable q.1.cls q.2 ∈ tables_1 ∧ Cond.privateMethod q.1 ∈ tables_1 ∧ Cond.instanceMethod q.1 ∈ tables_1
theorem lw_p0 : lw_okq (⟨"PieceBench", "placeOf", "(III)I"⟩, 7) := ⟨⟨by decide +kernel, by decide +kernel⟩, List.mem_of_getElem? (i := 12) (by decide +kernel), List.mem_of_getElem? (i := 83) (by decide +kernel), List.mem_of_getElem? (i := 84) (by decide +kernel)⟩
theorem lw_p1 : lw_okq (⟨"PieceBench$Datagram", "isTold", "(III)Z"⟩, 7) := ⟨⟨by decide +kernel, by decide +kernel⟩, List.mem_of_getElem? (i := 21) (by decide +kernel), List.mem_of_getElem? (i := 87) (by decide +kernel), List.mem_of_getElem? (i := 88) (by decide +kernel)⟩
theorem lw_p2 : lw_okq (⟨"PieceBench$Datagram", "holds", "(I)Z"⟩, 7) := ⟨⟨by decide +kernel, by decide +kernel⟩, List.mem_of_getElem? (i := 21) (by decide +kernel), List.mem_of_getElem? (i := 95) (by decide +kernel), List.mem_of_getElem? (i := 96) (by decide +kernel)⟩
theorem lw_p3 : lw_okq (⟨"java/lang/Throwable", "fillInStackTrace", "(I)Ljava/lang/Throwable;"⟩, 6) := ⟨⟨by decide +kernel, by decide +kernel⟩, List.mem_of_getElem? (i := 150) (by decide +kernel), List.mem_of_getElem? (i := 148) (by decide +kernel), List.mem_of_getElem? (i := 149) (by decide +kernel)⟩
theorem lw_p4 : lw_okq (⟨"PieceBench", "beginOnBench", "(IIII)I"⟩, 7) := ⟨⟨by decide +kernel, by decide +kernel⟩, List.mem_of_getElem? (i := 12) (by decide +kernel), List.mem_of_getElem? (i := 205) (by decide +kernel), List.mem_of_getElem? (i := 206) (by decide +kernel)⟩
theorem lw_p5 : lw_okq (⟨"PieceBench", "forget", "(I)V"⟩, 7) := ⟨⟨by decide +kernel, by decide +kernel⟩, List.mem_of_getElem? (i := 12) (by decide +kernel), List.mem_of_getElem? (i := 209) (by decide +kernel), List.mem_of_getElem? (i := 210) (by decide +kernel)⟩
theorem lw_p6 : lw_okq (⟨"PieceBench$Datagram", "begin", "(IIIII)V"⟩, 7) := ⟨⟨by decide +kernel, by decide +kernel⟩, List.mem_of_getElem? (i := 21) (by decide +kernel), List.mem_of_getElem? (i := 213) (by decide +kernel), List.mem_of_getElem? (i := 214) (by decide +kernel)⟩
theorem lw_p7 : lw_okq (⟨"PieceBench$Datagram", "take", "([III)V"⟩, 7) := ⟨⟨by decide +kernel, by decide +kernel⟩, List.mem_of_getElem? (i := 21) (by decide +kernel), List.mem_of_getElem? (i := 220) (by decide +kernel), List.mem_of_getElem? (i := 221) (by decide +kernel)⟩
theorem lw_p8 : lw_okq (⟨"PieceBench", "finish", "(I)V"⟩, 7) := ⟨⟨by decide +kernel, by decide +kernel⟩, List.mem_of_getElem? (i := 12) (by decide +kernel), List.mem_of_getElem? (i := 224) (by decide +kernel), List.mem_of_getElem? (i := 225) (by decide +kernel)⟩
theorem lw_p9 : lw_okq (⟨"PieceBench", "giveUpOverdue", "()I"⟩, 7) := ⟨⟨by decide +kernel, by decide +kernel⟩, List.mem_of_getElem? (i := 12) (by decide +kernel), List.mem_of_getElem? (i := 239) (by decide +kernel), List.mem_of_getElem? (i := 240) (by decide +kernel)⟩
theorem lw_p10 : lw_okq (⟨"PieceBenchModel", "find", "(III)I"⟩, 17) := ⟨⟨by decide +kernel, by decide +kernel⟩, List.mem_of_getElem? (i := 276) (by decide +kernel), List.mem_of_getElem? (i := 347) (by decide +kernel), List.mem_of_getElem? (i := 348) (by decide +kernel)⟩
theorem lw_p11 : lw_okq (⟨"PieceBenchModel", "begin", "(IIII)V"⟩, 17) := ⟨⟨by decide +kernel, by decide +kernel⟩, List.mem_of_getElem? (i := 276) (by decide +kernel), List.mem_of_getElem? (i := 351) (by decide +kernel), List.mem_of_getElem? (i := 352) (by decide +kernel)⟩
theorem lw_p12 : lw_okq (⟨"PieceBenchModel", "forget", "(I)V"⟩, 17) := ⟨⟨by decide +kernel, by decide +kernel⟩, List.mem_of_getElem? (i := 276) (by decide +kernel), List.mem_of_getElem? (i := 355) (by decide +kernel), List.mem_of_getElem? (i := 356) (by decide +kernel)⟩
theorem lw_p13 : lw_okq (⟨"PieceBenchModel", "lacks", "(I)I"⟩, 17) := ⟨⟨by decide +kernel, by decide +kernel⟩, List.mem_of_getElem? (i := 276) (by decide +kernel), List.mem_of_getElem? (i := 359) (by decide +kernel), List.mem_of_getElem? (i := 360) (by decide +kernel)⟩
theorem lw_p14 : lw_okq (⟨"PieceBenchModel", "finish", "(I)V"⟩, 17) := ⟨⟨by decide +kernel, by decide +kernel⟩, List.mem_of_getElem? (i := 276) (by decide +kernel), List.mem_of_getElem? (i := 363) (by decide +kernel), List.mem_of_getElem? (i := 364) (by decide +kernel)⟩
def lw_privs_1 : List (MethodName × Nat) := [(⟨"PieceBench", "placeOf", "(III)I"⟩, 7), (⟨"PieceBench$Datagram", "isTold", "(III)Z"⟩, 7), (⟨"PieceBench$Datagram", "holds", "(I)Z"⟩, 7), (⟨"java/lang/Throwable", "fillInStackTrace", "(I)Ljava/lang/Throwable;"⟩, 6), (⟨"PieceBench", "beginOnBench", "(IIII)I"⟩, 7), (⟨"PieceBench", "forget", "(I)V"⟩, 7), (⟨"PieceBench$Datagram", "begin", "(IIIII)V"⟩, 7), (⟨"PieceBench$Datagram", "take", "([III)V"⟩, 7), (⟨"PieceBench", "finish", "(I)V"⟩, 7), (⟨"PieceBench", "giveUpOverdue", "()I"⟩, 7), (⟨"PieceBenchModel", "find", "(III)I"⟩, 17), (⟨"PieceBenchModel", "begin", "(IIII)V"⟩, 17), (⟨"PieceBenchModel", "forget", "(I)V"⟩, 17), (⟨"PieceBenchModel", "lacks", "(I)I"⟩, 17), (⟨"PieceBenchModel", "finish", "(I)V"⟩, 17)]
theorem lw_r1 : ∀ q ∈ lw_privs_1, lw_okq q := List.forall_mem_cons.mpr ⟨lw_p0, List.forall_mem_cons.mpr ⟨lw_p1, List.forall_mem_cons.mpr ⟨lw_p2, List.forall_mem_cons.mpr ⟨lw_p3, List.forall_mem_cons.mpr ⟨lw_p4, List.forall_mem_cons.mpr ⟨lw_p5, List.forall_mem_cons.mpr ⟨lw_p6, List.forall_mem_cons.mpr ⟨lw_p7, List.forall_mem_cons.mpr ⟨lw_p8, List.forall_mem_cons.mpr ⟨lw_p9, List.forall_mem_cons.mpr ⟨lw_p10, List.forall_mem_cons.mpr ⟨lw_p11, List.forall_mem_cons.mpr ⟨lw_p12, List.forall_mem_cons.mpr ⟨lw_p13, List.forall_mem_cons.mpr ⟨lw_p14, fun _ h => absurd h List.not_mem_nil⟩⟩⟩⟩⟩⟩⟩⟩⟩⟩⟩⟩⟩⟩⟩
def lw_privs : List (MethodName × Nat) := lw_privs_1
def lw_tbl : List Cond := k2_sels lw_privs ++ tables_1
theorem lw_privs_ok : ∀ q ∈ lw_privs, lw_okq q := lw_r1
end
section
/-! ===== BEGIN words of one list among another's, by their places ===== -/
theorem goodIn_r {big : List Cond} (ws : List Cond) (ps : List Nat) (hp : ws = ps.filterMap (fun i => big[i]?)) (h : ws.all goodWord = true) : GoodIn big ws := by
  intro w hw
  have h1 := List.all_eq_true.mp h w hw
  rw [hp] at hw
  obtain ⟨i, -, hi⟩ := List.mem_filterMap.mp hw
  have hm : w ∈ big := by first | exact List.mem_of_getElem? hi | exact List.getElem?_mem hi
  exact ⟨hm, good_of_word h1⟩
theorem goodIn_app {big a b : List Cond} (ha : GoodIn big a) (hb : GoodIn big b) : GoodIn big (a ++ b) := fun w h => (List.mem_append.mp h).elim (ha w) (hb w)
theorem goodIn_ca {big a b : List Cond} {c : Cond} (ha : GoodIn big (c :: a)) (hb : GoodIn big b) : GoodIn big (c :: (a ++ b)) := fun w h => (List.mem_cons.mp h).elim (fun e => ha w (List.mem_cons.mpr (Or.inl e))) (fun h => (List.mem_append.mp h).elim (fun h => ha w (List.mem_cons.mpr (Or.inr h))) (hb w))
theorem goodIn_sub {big ws : List Cond} (hm : ∀ w ∈ ws, w ∈ big) (h : ws.all goodWord = true) : GoodIn big ws := fun w hw => ⟨hm w hw, good_of_word (List.all_eq_true.mp h w hw)⟩
/-! ===== END ===== -/

/-! ===== BEGIN exceptions that leave a method, and their catching by the caller (launches without stack traces) ===== -/
section VXA
/-! The laws vx_back, vx_callV, vx_callS, vx_callSW, vx_throw0, vx_throwS follow proofs of the library, with one case more: JvmDerived/Free/Laws.lean (Back.of_free), Shelf42/LK1.lean (callV, callS), Shelf/KitTraced.lean (throwNew0V, throwNewS). -/
/-- where a method has thrown q: the class by its name, the cell, what was written, the world -/
def vx_T (XC : String → State → State → Prop) (st : State) (q : Addr) (t : State) (mc ms : Nat) (free : Addr → Prop) : Prop :=
  ∃ (E : String) (ce : Cell) (L : List Loc), XC E st t ∧ t.heap[q]? = some ce ∧ ce.vm = .none ∧ st.vm.findClass E = some ce.cls ∧ st.WarmedH t.vm ∧ st.sameButNew ({ t with vm := st.vm } : State) L mc ms ∧ ∀ z ∈ L, free z.base
def vx_Q (Qc : Array Value → State → Outcome → State → Prop) (XC : String → State → State → Prop) (mc ms : Nat) (free : Addr → Prop) : Array Value → State → Outcome → State → Prop := fun a st o t =>
  (Qc a st o t ∧ ∃ L, FrameEnd st o t L mc ms ∧ ∀ q ∈ L, free q.base) ∨ ∃ q, o = .threw q ∧ vx_T XC st q t mc ms free
/-- a callee that returns or throws -/
def vx_Met (l : Launch) (y : MethodName) (ws : List Cond) (rm : Room) (Pc : Array Value → State → Prop) (Qc : Array Value → State → Outcome → State → Prop) (XC : String → State → State → Prop) (mc ms : Nat) (free : Addr → Prop) : Prop :=
  MetFree l y (headSpec ws rm) Pc (fun _ _ _ _ _ => True) (vx_Q Qc XC mc ms free)
def vx_Post (XC : String → State → State → Prop) (mc ms : Nat) (free : Addr → Prop) : Pt → Array Value → Addr → Pt → Prop := fun A a q B =>
  ∃ (g : JFrame) (mk : MethodId) (t : State) (L : List Loc) (E : String) (ce : Cell), B.U.heap = t.heap ∧ B.U.vm = t.vm ∧ XC E (A.U.calling g mk a) t ∧ t.heap[q]? = some ce ∧ ce.vm = .none ∧ A.U.vm.findClass E = some ce.cls ∧ B.locs = A.locs ++ L ∧ (∀ z ∈ L, free z.base) ∧ B.cells = A.cells + mc ∧ B.slots = A.slots + ms
def vx_Back (l : Launch) (R : Room) (p : Program) (e : Env) (below : List Frame) (s : State) (sargs : Array Value) (y : MethodName) (len W9 : Nat)
    (Pre : Pt → Array Value → Prop) (Post : Pt → Array Value → Option Value → Pt → Prop) (PostX : Pt → Array Value → Addr → Pt → Prop) : Prop :=
  ∀ (m : MethodId) (meth : Method) (c : Code) (A : Pt) (g : JFrame) (ig : Instr) (mk : MethodId) (a : Array Value),
    Stand p l e R s m sargs below meth c A.U A.locs A.cells A.slots → g.method = m → g.locals.size = c.maxLocals → decode c.code g.pc = .ok (ig, len) →
    2 * g.monitorRoom + (g.stack.map fun v => v.category).sum ≤ W9 → A.U.methodNamed? y = some mk → Pre A a →
    (∃ (v : Option Value) (B : Pt), Stand p l e R s m sargs below meth c B.U B.locs B.cells B.slots ∧ Post A a v B ∧
      Steps p.tables e below (doInvoke e (A.U.setTop g) [] mk a).1 (B.U.setTop { g with pc := g.pc + len, stack := v.toList ++ g.stack })) ∨
    (∃ (q : Addr) (B : Pt), Stand p l e R s m sargs below meth c B.U B.locs B.cells B.slots ∧ PostX A a q B ∧
      Steps p.tables e below (doInvoke e (A.U.setTop g) [] mk a).1 ((B.U.setTop g).pushFrame (.throwing q)))
section Payer
variable {l : Launch} {R : Room} {p : Program} {e : Env} {below : List Frame} {s : State} {sargs : Array Value} {y : MethodName} {len W9 : Nat}
theorem vx_back {ws : List Cond} {rm : Room} {Pc : Array Value → State → Prop} {Qc : Array Value → State → Outcome → State → Prop} {XC : String → State → State → Prop} {mc ms : Nat} {free : Addr → Prop} {bytes : ByteArray} {maxL : Nat} {ret : Option FieldType}
    (hM : vx_Met l y ws rm Pc Qc XC mc ms free) (hblind : FrameBlind Pc) (hrc : rm.cells = mc) (hrs : rm.slots = ms)
    (hframes : rm.frames + 1 ≤ R.frames) (hlocals : W9 + (maxL + 11) + rm.locals ≤ R.locals)
    (hws : ∀ w ∈ ws, ∀ a' U, s.WarmedH U.vm → w.before a' U = true) (hcode : Cond.code y bytes maxL ret ∈ ws) (hinit : ∀ a' U, s.WarmedH U.vm → (Cond.initialized y.cls).before a' U = true) :
    vx_Back l R p e below s sargs y len W9 (PreOf R mc ms Pc) (PostOf Qc mc ms free) (vx_Post XC mc ms free) := by
  intro m meth c A g ig mk a X hg hsize hdg hW hn hp
  have h1 : (headSpec ws rm).pre.before a A.U = true := atoms_intro fun w hw => hws w hw _ _ X.warmed
  have h2 : (Cond.code y bytes maxL ret).before a A.U = true := hws _ hcode _ _ X.warmed
  have h3 : (Cond.initialized y.cls).before a A.U = true := hinit _ _ X.warmed
  have h4 : A.cells + (headSpec ws rm).room.cells ≤ R.cells := by rw [show (headSpec ws rm).room.cells = mc from hrc]; exact hp.1
  have h5 : A.slots + (headSpec ws rm).room.slots ≤ R.slots := by rw [show (headSpec ws rm).room.slots = ms from hrs]; exact hp.2.1
  have hPc : Pc a (A.U.calling g mk a) := hblind _ _ _ _ hp.2.2
  obtain ⟨U, Ls, c0, s0⟩ := A
  dsimp only [Pt.U, Pt.locs, Pt.cells, Pt.slots] at h1 h2 h3 h4 h5 X hn hPc ⊢
  obtain ⟨methY, cY, hmY, hcY, -, hlY, -, -, -, -⟩ := Cond.code_spec hn h2
  obtain ⟨kY, hkY, -⟩ := className_of_methodNamed hn
  have hinitY : kY.init = .initialized := Cond.initialized_spec (findClass_of_methodNamed hn) hkY h3
  have h : At U g.method c below := by rw [hg]; exact X.here
  have hlocals9 : W9 + (maxL + 11) + (headSpec ws rm).room.locals ≤ R.locals := hlocals
  have happ : (headSpec ws rm).appliesLoose y e.platform (U.calling g mk a) = true :=
    Spec.appliesLoose_calling (g := g) h hdg hn hkY hinitY
      (X.room_calling (g := g) (R' := (headSpec ws rm).room) hsize hmY hcY hframes (by rw [hlY]; omega) h4 h5) h1
  obtain ⟨mid, hmid⟩ := h.above
  have hfr : (U.setTop g).frames = (.java g :: mid) ++ below := by rw [State.frames_setTop' g h.top, hmid]; rfl
  obtain ⟨o, s₂, hsteps, -, hend, hq⟩ := Steps.callFree hM p X.admits X.cas X.clock (acts := []) hfr happ hPc trivial
  have hq' : vx_Q Qc XC mc ms free a (U.calling g mk a) o s₂ := hq
  rw [State.frames_setTop' g h.top] at hend
  obtain ⟨g₀, hg0⟩ := Option.isSome_iff_exists.mp h.top
  obtain ⟨r, hr⟩ := State.topJava?_eq_some.mp hg0
  have hr' : (({ U with heap := s₂.heap, slotsUsed := s₂.slotsUsed } : State).setVm s₂.vm).frames = .java g₀ :: r := hr
  rcases hq' with ⟨hqc, L, hfe, hL⟩ | ⟨q, rfl, E, ce, L, hx, hce, hcv, hcl, hW₂, hsm, hL⟩
  · obtain ⟨⟨v, rfl⟩, hW₂, e2, q2, q3, q4, q5, q6⟩ := id hfe
    have e3 : s₂ = ({ (U.calling g mk a).setFrames s₂.frames with heap := s₂.heap, slotsUsed := s₂.slotsUsed } : State).setVm s₂.vm := by
      have : s₂ = ({ s₂ with vm := (U.calling g mk a).vm } : State).setVm s₂.vm := rfl
      rw [e2] at this
      exact this
    obtain ⟨c₂, i₂, len₂, hc₂, hd₂, hf₂⟩ := hend
    have hW' : U.WarmedH s₂.vm := hW₂
    have hcc : c₂ = c := by
      have h1 : s₂.code? g.method = U.code? g.method := by
        rw [State.code?_eq, State.code?_eq, hW'.alike.method?]
      exact Option.some.inj (hc₂.symm.trans (h1.trans h.code))
    subst hcc
    have hlen : len₂ = len := by rw [hdg] at hd₂; cases hd₂; rfl
    subst hlen
    have hs₂ : s₂ = (({ U with heap := s₂.heap, slotsUsed := s₂.slotsUsed } : State).setVm s₂.vm).setTop { g with pc := g.pc + len₂, stack := v.toList ++ g.stack } := by
      refine e3.trans ?_
      rw [hf₂, State.calling_eq h.top, State.setFrames_setFrames, State.setTop_of_frames _ hr', hr]
      rfl
    have hsame : U.sameButNew ({ U with heap := s₂.heap, slotsUsed := s₂.slotsUsed } : State) L mc ms := by
      refine ⟨?_, q2, q3, q4, q5, q6⟩
      obtain ⟨t, ht, -⟩ := State.frames_cons hr
      show ({ U with heap := s₂.heap, slotsUsed := s₂.slotsUsed } : State) = { U.setFrames U.frames with heap := s₂.heap, slotsUsed := s₂.slotsUsed }
      rw [State.setFrames_self ht]
    subst hg
    refine Or.inl ⟨v, ⟨(({ U with heap := s₂.heap, slotsUsed := s₂.slotsUsed } : State).setVm s₂.vm), Ls ++ L, c0 + mc, s0 + ms⟩,
      ⟨X.admits, X.cas, X.clock, X.frames, X.room, X.hears, X.method, X.code, (X.here.setHeapUsed s₂.heap s₂.slotsUsed).setVm hW'.alike, X.tail, State.WarmedH.trans X.warmed hW', X.limits, X.bytes, X.same.trans (hsame.setVm s.vm)⟩,
      ⟨g, mk, s₂, L, rfl, rfl, hqc, rfl, hL, rfl, rfl⟩, ?_⟩
    show Steps p.tables e below _ ((({ U with heap := s₂.heap, slotsUsed := s₂.slotsUsed } : State).setVm s₂.vm).setTop { g with pc := g.pc + len₂, stack := v.toList ++ g.stack })
    rw [← hs₂]
    exact hsteps
  · obtain ⟨e2, q2, q3, q4, q5, q6⟩ := id hsm
    have e3 : s₂ = ({ (U.calling g mk a).setFrames s₂.frames with heap := s₂.heap, slotsUsed := s₂.slotsUsed } : State).setVm s₂.vm := by
      have : s₂ = ({ s₂ with vm := (U.calling g mk a).vm } : State).setVm s₂.vm := rfl
      rw [e2] at this
      exact this
    have hf₂ : s₂.frames = .throwing q :: .java g :: U.frames.tail := hend
    have hW' : U.WarmedH s₂.vm := hW₂
    have hs₂ : s₂ = ((({ U with heap := s₂.heap, slotsUsed := s₂.slotsUsed } : State).setVm s₂.vm).setTop g).pushFrame (.throwing q) := by
      refine e3.trans ?_
      rw [hf₂, State.calling_eq h.top, State.setFrames_setFrames, State.pushFrame, State.frames_setTop _ hr', State.setTop_of_frames _ hr', State.setFrames_setFrames, hr]
      rfl
    have hsame : U.sameButNew ({ U with heap := s₂.heap, slotsUsed := s₂.slotsUsed } : State) L mc ms := by
      refine ⟨?_, q2, q3, q4, q5, q6⟩
      obtain ⟨t, ht, -⟩ := State.frames_cons hr
      show ({ U with heap := s₂.heap, slotsUsed := s₂.slotsUsed } : State) = { U.setFrames U.frames with heap := s₂.heap, slotsUsed := s₂.slotsUsed }
      rw [State.setFrames_self ht]
    subst hg
    refine Or.inr ⟨q, ⟨(({ U with heap := s₂.heap, slotsUsed := s₂.slotsUsed } : State).setVm s₂.vm), Ls ++ L, c0 + mc, s0 + ms⟩,
      ⟨X.admits, X.cas, X.clock, X.frames, X.room, X.hears, X.method, X.code, (X.here.setHeapUsed s₂.heap s₂.slotsUsed).setVm hW'.alike, X.tail, State.WarmedH.trans X.warmed hW', X.limits, X.bytes, X.same.trans (hsame.setVm s.vm)⟩,
      ⟨g, mk, s₂, L, E, ce, rfl, rfl, hx, hce, hcv, hcl, rfl, hL, rfl, rfl⟩, ?_⟩
    show Steps p.tables e below _ (((({ U with heap := s₂.heap, slotsUsed := s₂.slotsUsed } : State).setVm s₂.vm).setTop g).pushFrame (.throwing q))
    rw [← hs₂]
    exact hsteps
end Payer
section Calls
variable {p : Program} {l : Launch} {e : Env} {R : Room} {s : State} {m : MethodId} {args : Array Value} {below : List Frame} {meth : Method} {c : Code} {T : State} {locs : List Loc} {cells slots : Nat}
theorem vx_callV (X : Stand p l e R s m args below meth c T locs cells slots) (hexec : p.tables.exec = Jvm.exec) {own C : String} {index : Nat} {y : MethodName} {bytes : ByteArray} {maxL : Nat} {ret : Option FieldType}
    (hown : s.vm.findClass own = some m.cls) (hlink : (Cond.methodLink own index y).before args s = true) (hinst : (Cond.instanceMethod y).before args s = true) (hsel : (Cond.selects C y y).before args s = true)
    (hcode : (Cond.code y bytes maxL ret).before args s = true) (hy : y.cls ≠ "java/lang/invoke/MethodHandle" ∧ y.cls ≠ "java/lang/invoke/VarHandle")
    {W9 : Nat} {Pre : Pt → Array Value → Prop} {Post : Pt → Array Value → Option Value → Pt → Prop} {PostX : Pt → Array Value → Addr → Pt → Prop} (hK : vx_Back l R p e below s args y 3 W9 Pre Post PostX)
    {b : Addr} {cellB : Cell} (hcell : T.heap[b]? = some cellB) (hobj : cellB.vm.isStatics = false) (hcls : s.vm.findClass C = some cellB.cls)
    {g : JFrame} (hg : g.method = m) (hsize : g.locals.size = c.maxLocals) {argsL rest : List Value} (hlen : ∀ sig, parseMethodDescriptor y.desc = some sig → argsL.length = sig.parameters.length)
    (hstack : g.stack = argsL.reverse ++ .ref b :: rest) (hW : 2 * g.monitorRoom + (rest.map fun v => v.category).sum ≤ W9) (hdg : decode c.code g.pc = .ok (.invokevirtual index, 3))
    (hpre : ∀ vm₁, s.WarmedH vm₁ → Pre ⟨T.setVm vm₁, locs, cells, slots⟩ (Value.ref b :: argsL).toArray) :
    (∃ (v : Option Value) (vm₁ : Vm) (B : Pt), s.WarmedH vm₁ ∧ Stand p l e R s m args below meth c B.U B.locs B.cells B.slots ∧ Post ⟨T.setVm vm₁, locs, cells, slots⟩ (Value.ref b :: argsL).toArray v B ∧
      ∀ target, Steps p.tables e below (B.U.setTop { g with pc := g.pc + 3, stack := v.toList ++ rest }) target → Steps p.tables e below (T.setTop g) target) ∨
    (∃ (q : Addr) (vm₁ : Vm) (B : Pt), s.WarmedH vm₁ ∧ Stand p l e R s m args below meth c B.U B.locs B.cells B.slots ∧ PostX ⟨T.setVm vm₁, locs, cells, slots⟩ (Value.ref b :: argsL).toArray q B ∧
      Steps p.tables e below (T.setTop g) ((B.U.setTop { g with stack := rest }).pushFrame (.throwing q))) := by
  obtain ⟨mk, methM, hnamed, hmethM, hstM, habM⟩ := Cond.instanceMethod_spec hinst
  obtain ⟨methM', cM, hmethM', -, -, -, -, -, -, hsigM⟩ := Cond.code_spec hnamed hcode
  cases hmethM.symm.trans hmethM'
  obtain ⟨c2, r2, m2, q1, q2, q3, q4, kP, hkP, hkPi⟩ := Cond.selects_spec hsel
  cases hcls.symm.trans q1
  cases (State.methodFound?_of_named hnamed hy).symm.trans q2
  cases hnamed.symm.trans q3
  have hselP : selectMethod e.platform s.vm cellB.cls mk = .method mk := by rw [Launch.admits_selectMethod X.admits]; exact q4
  obtain ⟨vm₁, X₁, hstep₁⟩ := X.invokevirtual hexec hown hlink hnamed hmethM hstM hkP hkPi hy (a := b) (cell := cellB) hcell
    (fun z h => by rw [h] at hobj; cases hobj) hselP hmethM habM hkP hkPi (g := g) hg (argsL := argsL) (rest := rest) (hlen _ hsigM) hstack hdg
  rcases hK m meth c ⟨T.setVm vm₁, locs, cells, slots⟩ { g with stack := rest } (.invokevirtual index) mk (Value.ref b :: argsL).toArray X₁ hg hsize hdg hW (X₁.named hnamed) (hpre vm₁ X₁.warmed) with ⟨v, B, X', hpost, hsteps⟩ | ⟨q, B, X', hpost, hsteps⟩
  · exact Or.inl ⟨v, vm₁, B, X₁.warmed, X', hpost, fun target h => hstep₁ _ fun acts => by rw [doInvoke_state]; exact hsteps.trans h⟩
  · exact Or.inr ⟨q, vm₁, B, X₁.warmed, X', hpost, hstep₁ _ fun acts => by rw [doInvoke_state]; exact hsteps⟩
theorem vx_callS (X : Stand p l e R s m args below meth c T locs cells slots) (hexec : p.tables.exec = Jvm.exec) {own : String} {index : Nat} {y : MethodName} {bytes : ByteArray} {maxL : Nat} {ret : Option FieldType}
    (hown : s.vm.findClass own = some m.cls) (hlink : (Cond.methodLink own index y).before args s = true) (hstat : (Cond.static y).before args s = true) (hinit : (Cond.initialized y.cls).before args s = true)
    (hcode : (Cond.code y bytes maxL ret).before args s = true) (hy : y.cls ≠ "java/lang/invoke/MethodHandle" ∧ y.cls ≠ "java/lang/invoke/VarHandle")
    {W9 : Nat} {Pre : Pt → Array Value → Prop} {Post : Pt → Array Value → Option Value → Pt → Prop} {PostX : Pt → Array Value → Addr → Pt → Prop} (hK : vx_Back l R p e below s args y 3 W9 Pre Post PostX)
    {g : JFrame} (hg : g.method = m) (hsize : g.locals.size = c.maxLocals) {argsL rest : List Value} (hlen : ∀ sig, parseMethodDescriptor y.desc = some sig → argsL.length = sig.parameters.length)
    (hstack : g.stack = argsL.reverse ++ rest) (hW : 2 * g.monitorRoom + (rest.map fun v => v.category).sum ≤ W9) (hdg : decode c.code g.pc = .ok (.invokestatic index, 3))
    (hpre : ∀ vm₁, s.WarmedH vm₁ → Pre ⟨T.setVm vm₁, locs, cells, slots⟩ argsL.toArray) :
    (∃ (v : Option Value) (vm₁ : Vm) (B : Pt), s.WarmedH vm₁ ∧ Stand p l e R s m args below meth c B.U B.locs B.cells B.slots ∧ Post ⟨T.setVm vm₁, locs, cells, slots⟩ argsL.toArray v B ∧
      ∀ target, Steps p.tables e below (B.U.setTop { g with pc := g.pc + 3, stack := v.toList ++ rest }) target → Steps p.tables e below (T.setTop g) target) ∨
    (∃ (q : Addr) (vm₁ : Vm) (B : Pt), s.WarmedH vm₁ ∧ Stand p l e R s m args below meth c B.U B.locs B.cells B.slots ∧ PostX ⟨T.setVm vm₁, locs, cells, slots⟩ argsL.toArray q B ∧
      Steps p.tables e below (T.setTop g) ((B.U.setTop { g with stack := rest }).pushFrame (.throwing q))) := by
  obtain ⟨mk, hnamed⟩ := Cond.code_named hcode
  obtain ⟨methM, cM, hmethM, -, -, -, -, -, -, hsigM⟩ := Cond.code_spec hnamed hcode
  have hstatic : methM.isStatic = true := Cond.static_spec hnamed hmethM hstat
  obtain ⟨kP, hkP, -⟩ := className_of_methodNamed hnamed
  have hinitP : kP.init = .initialized := Cond.initialized_spec (findClass_of_methodNamed hnamed) hkP hinit
  obtain ⟨vm₁, X₁, hstep₁⟩ := X.invokestatic hexec hown hlink hnamed hmethM hstatic hkP hinitP hy (g := g) hg (argsL := argsL) (rest := rest) (hlen _ hsigM) hstack hdg
  rcases hK m meth c ⟨T.setVm vm₁, locs, cells, slots⟩ { g with stack := rest } (.invokestatic index) mk argsL.toArray X₁ hg hsize hdg hW (X₁.named hnamed) (hpre vm₁ X₁.warmed) with ⟨v, B, X', hpost, hsteps⟩ | ⟨q, B, X', hpost, hsteps⟩
  · exact Or.inl ⟨v, vm₁, B, X₁.warmed, X', hpost, fun target h => hstep₁ _ fun acts => by rw [doInvoke_state]; exact hsteps.trans h⟩
  · exact Or.inr ⟨q, vm₁, B, X₁.warmed, X', hpost, hstep₁ _ fun acts => by rw [doInvoke_state]; exact hsteps⟩
end Calls
theorem vx_cls {s : State} {T : State} {vm₁ : Vm} {E : String} {k : ClassId} (hW : s.WarmedH vm₁) (h : (T.setVm vm₁).vm.findClass E = some k) : s.vm.findClass E = some k := by
  have h1 : vm₁.findClass E = some k := h
  rw [hW.alike.findClass] at h1
  exact h1
/-- the method's frame g, with q thrown over it -/
def vx_W (p : Program) (l : Launch) (e : Env) (R : Room) (s : State) (m : MethodId) (args : Array Value) (below : List Frame) (meth : Method) (c : Code) (H : Heap) (locs : List Loc) (cells slots : Nat) (Q : State → Prop) (g : JFrame) (q : Addr) : Prop :=
  ∀ T : State, T.heap = H → Stand p l e R s m args below meth c T locs cells slots → ∃ t, Steps p.tables e below ((T.setTop g).pushFrame (.throwing q)) t ∧ Q t
def vx_Run (p : Program) (l : Launch) (e : Env) (R : Room) (s : State) (m : MethodId) (args : Array Value) (below : List Frame) (meth : Method) (c : Code) (H : Heap) (locs : List Loc) (cells slots mc ms : Nat) (g : JFrame) (rest : List Value) (Qa : State → Outcome → State → Prop) (XC : String → State → State → Prop) (free : Addr → Prop) : Prop :=
  ∀ T : State, T.heap = H → Stand p l e R s m args below meth c T locs cells slots →
    (∃ (v : Option Value) (st₀ t T' : State) (L : List Loc), st₀.heap = H ∧ Stand p l e R s m args below meth c T' (locs ++ L) (cells + mc) (slots + ms) ∧ (∀ q ∈ L, free q.base) ∧ T'.heap = t.heap ∧ T'.vm = t.vm ∧ Qa st₀ (.returned v) t ∧
      Goes p e below T g T' { g with pc := g.pc + 3, stack := v.toList ++ rest }) ∨
    (∃ (q : Addr) (st₀ t T' : State) (L : List Loc) (E : String) (ce : Cell), st₀.heap = H ∧ Stand p l e R s m args below meth c T' (locs ++ L) (cells + mc) (slots + ms) ∧ (∀ z ∈ L, free z.base) ∧ T'.heap = t.heap ∧ T'.vm = t.vm ∧ XC E st₀ t ∧ t.heap[q]? = some ce ∧ ce.vm = .none ∧ s.vm.findClass E = some ce.cls ∧
      Steps p.tables e below (T.setTop g) ((T'.setTop { g with stack := rest }).pushFrame (.throwing q)))
def vx_X {S : Type} (px : S → Prop) (B : String → S → State → Prop) (A : Nat → Prop) : String → State → State → Prop := fun E st t => ∃ u : S, px u ∧ B E u t ∧ va_F A st t
section Runs
variable {p : Program} {l : Launch} {e : Env} {R : Room} {s : State} {m : MethodId} {args : Array Value} {below : List Frame} {meth : Method} {c : Code} {H : Heap} {locs : List Loc} {cells slots : Nat}
variable {y : MethodName} {bytes cc : ByteArray} {maxL nL mc ms n index : Nat} {ret : Option FieldType} {ws : List Cond} {rm : Room} {Pc : Array Value → State → Prop} {Qc : Array Value → State → Outcome → State → Prop} {XC : String → State → State → Prop} {free : Addr → Prop} {Ts : List Cond} {own C : String} {b : Addr} {As rest : List Value} {g : JFrame}
theorem vx_callBack (cb : CallB R s args own index y bytes maxL ret ws rm mc ms n) (hM : vx_Met l y ws rm Pc Qc XC mc ms free) (hbl : FrameBlind Pc) : vx_Back l R p e below s args y 3 8 (PreOf R mc ms Pc) (PostOf Qc mc ms free) (vx_Post XC mc ms free) := by
  obtain ⟨hrc, hrs, hfr, hlo, hws, hcw, -, hini, -⟩ := cb
  exact vx_back (bytes := bytes) (maxL := maxL) (ret := ret) hM hbl hrc hrs hfr hlo hws hcw (fun a' U hW => word_at hW (Or.inl (by first | rfl | simp [Cond.onTables, Cond.keeps, Cond.steady])) hini)
theorem vx_runV (S : CallFix p m c cc nL s args Ts own) (hM : vx_Met l y ws rm Pc Qc XC mc ms free) (cw : CallW R s args own C index y bytes maxL ret ws rm mc ms n) (hp : PreV s H C b Pc As)
    (hg : g.method = m) (hn : As.length = n) (hsize : g.locals.size = nL) (hstack : g.stack = As.reverse ++ .ref b :: rest) (hW : 2 * g.monitorRoom + (rest.map fun v => v.category).sum ≤ 8) (hdg : decode cc g.pc = .ok (.invokevirtual index, 3)) (hf : cells + mc ≤ R.cells ∧ slots + ms ≤ R.slots) :
    vx_Run p l e R s m args below meth c H locs cells slots mc ms g rest (Qc (Value.ref b :: As).toArray) XC free := by
  have hK : vx_Back l R p e below s args y 3 8 (PreOf R mc ms Pc) (PostOf Qc mc ms free) (vx_Post XC mc ms free) := vx_callBack cw.1 hM hp.1
  obtain ⟨⟨-, -, -, -, -, -, hcode, -, hy, hlen, hl⟩, hin, hse⟩ := cw
  obtain ⟨hx, hb, hml, ho, -⟩ := S
  obtain ⟨-, ⟨cellB, hcB, hoB, hclB⟩, hPc⟩ := hp
  intro T hT X
  rcases vx_callV X hx (C := C) (bytes := bytes) (maxL := maxL) (ret := ret) ho hl hin hse hcode hy hK (by rw [hT]; exact hcB) hoB hclB hg (hsize.trans hml.symm) (argsL := As) (rest := rest) (fun sig h => hn.trans (hlen sig h)) hstack hW (by rw [hb]; exact hdg)
    (fun vm₁ hW₁ => ⟨hf.1, hf.2, hPc (T.setVm vm₁) hT hW₁⟩) with ⟨v, vm₁, ⟨U', l2, c2, s2⟩, hW₁, X', ⟨g', mk, t, L, e1, e2, hq, h1, hL, h2, h3⟩, st⟩ | ⟨q, vm₁, ⟨U', l2, c2, s2⟩, hW₁, X', ⟨g', mk, t, L, E, ce, e1, e2, hq, hce, hcv, hcl, h1, hL, h2, h3⟩, st⟩
  · dsimp only [Pt.U, Pt.locs, Pt.cells, Pt.slots] at X' e1 e2 h1 h2 h3 st
    subst h1; subst h2; subst h3
    exact Or.inl ⟨v, (T.setVm vm₁).calling g' mk (Value.ref b :: As).toArray, t, U', L, hT, X', hL, e1, e2, hq, st⟩
  · dsimp only [Pt.U, Pt.locs, Pt.cells, Pt.slots] at X' e1 e2 h1 h2 h3 st hcl
    subst h1; subst h2; subst h3
    exact Or.inr ⟨q, (T.setVm vm₁).calling g' mk (Value.ref b :: As).toArray, t, U', L, E, ce, hT, X', hL, e1, e2, hq, hce, hcv, vx_cls hW₁ hcl, st⟩
theorem vx_runS (S : CallFix p m c cc nL s args Ts own) (hM : vx_Met l y ws rm Pc Qc XC mc ms free) (cw : CallB R s args own index y bytes maxL ret ws rm mc ms n ∧ (Cond.static y).before args s = true) (hp : PreS s H Pc As)
    (hg : g.method = m) (hn : As.length = n) (hsize : g.locals.size = nL) (hstack : g.stack = As.reverse ++ rest) (hW : 2 * g.monitorRoom + (rest.map fun v => v.category).sum ≤ 8) (hdg : decode cc g.pc = .ok (.invokestatic index, 3)) (hf : cells + mc ≤ R.cells ∧ slots + ms ≤ R.slots) :
    vx_Run p l e R s m args below meth c H locs cells slots mc ms g rest (Qc As.toArray) XC free := by
  have hK : vx_Back l R p e below s args y 3 8 (PreOf R mc ms Pc) (PostOf Qc mc ms free) (vx_Post XC mc ms free) := vx_callBack cw.1 hM hp.1
  obtain ⟨⟨-, -, -, -, -, -, hcode, hini, hy, hlen, hl⟩, hstt⟩ := cw
  obtain ⟨hx, hb, hml, ho, -⟩ := S
  intro T hT X
  rcases vx_callS X hx (bytes := bytes) (maxL := maxL) (ret := ret) ho hl hstt hini hcode hy hK hg (hsize.trans hml.symm) (argsL := As) (rest := rest) (fun sig h => hn.trans (hlen sig h)) hstack hW (by rw [hb]; exact hdg)
    (fun vm₁ hW₁ => ⟨hf.1, hf.2, hp.2 (T.setVm vm₁) hT hW₁⟩) with ⟨v, vm₁, ⟨U', l2, c2, s2⟩, hW₁, X', ⟨g', mk, t, L, e1, e2, hq, h1, hL, h2, h3⟩, st⟩ | ⟨q, vm₁, ⟨U', l2, c2, s2⟩, hW₁, X', ⟨g', mk, t, L, E, ce, e1, e2, hq, hce, hcv, hcl, h1, hL, h2, h3⟩, st⟩
  · dsimp only [Pt.U, Pt.locs, Pt.cells, Pt.slots] at X' e1 e2 h1 h2 h3 st
    subst h1; subst h2; subst h3
    exact Or.inl ⟨v, (T.setVm vm₁).calling g' mk As.toArray, t, U', L, hT, X', hL, e1, e2, hq, st⟩
  · dsimp only [Pt.U, Pt.locs, Pt.cells, Pt.slots] at X' e1 e2 h1 h2 h3 st hcl
    subst h1; subst h2; subst h3
    exact Or.inr ⟨q, (T.setVm vm₁).calling g' mk As.toArray, t, U', L, E, ce, hT, X', hL, e1, e2, hq, hce, hcv, vx_cls hW₁ hcl, st⟩
end Runs
section Rows
variable {p : Program} {l : Launch} {e : Env} {R : Room} {s : State} {m : MethodId} {args : Array Value} {below : List Frame} {meth : Method} {c : Code} {H : Heap} {locs : List Loc} {cells slots : Nat} {Q : State → Prop}
variable {mc ms : Nat} {free : Addr → Prop} {A0 A1 : Nat → Prop} {H0 : Heap} {a : Array Value} {pc : Nat} {ls : Array Slot} {st0 rest : List Value}
theorem vx_keep {st₀ t T' : State} {L : List Loc} (h0 : st₀.heap = H) (e1 : T'.heap = t.heap) (hS : va_S A0 H0 H locs) (hA : ∀ q, q < H.size → A1 q → A0 q) (hf : ∀ q, free q → A0 q) (hL : ∀ q ∈ L, free q.base) (hF : va_F A1 st₀ t) :
    H.size ≤ T'.heap.size ∧ (∀ q : Nat, q < H.size → ¬ A1 q → T'.heap[q]? = H[q]?) ∧ va_S A0 H0 T'.heap (locs ++ L) := by
  obtain ⟨hz, hk⟩ := hF
  rw [h0] at hz hk
  exact ⟨by rw [e1]; exact hz, fun q h1 h2 => by rw [e1]; exact hk q h1 h2,
    ⟨Nat.le_trans hS.1 (by rw [e1]; exact hz), fun q h1 h2 => by rw [e1, hk q (Nat.lt_of_lt_of_le h1 hS.1) (fun z => h2 (hA q (Nat.lt_of_lt_of_le h1 hS.1) z))]; exact hS.2.1 q h1 h2, fun q hq => by
      rcases List.mem_append.mp hq with h | h
      · exact hS.2.2 q h
      · exact hf _ (hL q h)⟩⟩
theorem vx_calli {S SX : Type} {post : Int32 → S → Prop} {px : SX → Prop} {B : S → State → Prop} {BX : String → SX → State → Prop} {AX : Nat → Prop} (hr : vx_Run p l e R s m args below meth c H locs cells slots mc ms (F0 m pc ls st0) rest (va_Qi post B A1 a) (vx_X px BX AX) free) (hS : va_S A0 H0 H locs) (hA : ∀ q, q < H.size → A1 q → A0 q) (hf : ∀ q, free q → A0 q) (hAX : ∀ q, q < H.size → AX q → A0 q)
    (kx : ∀ (E : String) (ce : Cell) (q9 : Addr) (u : SX) (t : State) (H1 : Heap) (locs1 : List Loc), t.heap = H1 → s.vm.Alike t.vm → px u → BX E u t → H.size ≤ H1.size → (∀ q : Nat, q < H.size → ¬ AX q → H1[q]? = H[q]?) → va_S A0 H0 H1 locs1 → H1[q9]? = some ce → ce.vm = .none → s.vm.findClass E = some ce.cls → vx_W p l e R s m args below meth c H1 locs1 (cells + mc) (slots + ms) Q (F0 m pc ls rest) q9)
    (kk : ∀ (r : Int32) (u : S) (t : State) (H1 : Heap) (locs1 : List Loc), t.heap = H1 → s.vm.Alike t.vm → post r u → B u t → H.size ≤ H1.size → (∀ q : Nat, q < H.size → ¬ A1 q → H1[q]? = H[q]?) → va_S A0 H0 H1 locs1 → W p l e R s m args below meth c H1 locs1 (cells + mc) (slots + ms) Q (F0 m (pc + 3) ls (.int r :: rest))) : W p l e R s m args below meth c H locs cells slots Q (F0 m pc ls st0) := by
  intro T hT X
  rcases hr T hT X with ⟨v, st₀, t, T', L, h0, X', hL, e1, e2, ⟨⟨r, u, hv, hp, hb⟩, hF⟩, st⟩ | ⟨q, st₀, t, T', L, E, ce, h0, X', hL, e1, e2, ⟨u, hp, hb, hF⟩, hce, hcv, hcl, st⟩
  · cases hv
    obtain ⟨k1, k2, k3⟩ := vx_keep h0 e1 hS hA hf hL hF
    obtain ⟨t2, a1, b1⟩ := kk r u t T'.heap (locs ++ L) e1.symm (by rw [← e2]; exact X'.warmed.alike) hp hb k1 k2 k3 T' rfl X'
    exact ⟨t2, st t2 a1, b1⟩
  · obtain ⟨k1, k2, k3⟩ := vx_keep h0 e1 hS hAX hf hL hF
    obtain ⟨t2, a1, b1⟩ := kx E ce q u t T'.heap (locs ++ L) e1.symm (by rw [← e2]; exact X'.warmed.alike) hp hb k1 k2 k3 (by rw [e1]; exact hce) hcv hcl T' rfl X'
    exact ⟨t2, st.trans a1, b1⟩
theorem vx_calll {S SX : Type} {post : Int64 → S → Prop} {px : SX → Prop} {B : S → State → Prop} {BX : String → SX → State → Prop} {AX : Nat → Prop} (hr : vx_Run p l e R s m args below meth c H locs cells slots mc ms (F0 m pc ls st0) rest (va_Ql post B A1 a) (vx_X px BX AX) free) (hS : va_S A0 H0 H locs) (hA : ∀ q, q < H.size → A1 q → A0 q) (hf : ∀ q, free q → A0 q) (hAX : ∀ q, q < H.size → AX q → A0 q)
    (kx : ∀ (E : String) (ce : Cell) (q9 : Addr) (u : SX) (t : State) (H1 : Heap) (locs1 : List Loc), t.heap = H1 → s.vm.Alike t.vm → px u → BX E u t → H.size ≤ H1.size → (∀ q : Nat, q < H.size → ¬ AX q → H1[q]? = H[q]?) → va_S A0 H0 H1 locs1 → H1[q9]? = some ce → ce.vm = .none → s.vm.findClass E = some ce.cls → vx_W p l e R s m args below meth c H1 locs1 (cells + mc) (slots + ms) Q (F0 m pc ls rest) q9)
    (kk : ∀ (r : Int64) (u : S) (t : State) (H1 : Heap) (locs1 : List Loc), t.heap = H1 → s.vm.Alike t.vm → post r u → B u t → H.size ≤ H1.size → (∀ q : Nat, q < H.size → ¬ A1 q → H1[q]? = H[q]?) → va_S A0 H0 H1 locs1 → W p l e R s m args below meth c H1 locs1 (cells + mc) (slots + ms) Q (F0 m (pc + 3) ls (.long r :: rest))) : W p l e R s m args below meth c H locs cells slots Q (F0 m pc ls st0) := by
  intro T hT X
  rcases hr T hT X with ⟨v, st₀, t, T', L, h0, X', hL, e1, e2, ⟨⟨r, u, hv, hp, hb⟩, hF⟩, st⟩ | ⟨q, st₀, t, T', L, E, ce, h0, X', hL, e1, e2, ⟨u, hp, hb, hF⟩, hce, hcv, hcl, st⟩
  · cases hv
    obtain ⟨k1, k2, k3⟩ := vx_keep h0 e1 hS hA hf hL hF
    obtain ⟨t2, a1, b1⟩ := kk r u t T'.heap (locs ++ L) e1.symm (by rw [← e2]; exact X'.warmed.alike) hp hb k1 k2 k3 T' rfl X'
    exact ⟨t2, st t2 a1, b1⟩
  · obtain ⟨k1, k2, k3⟩ := vx_keep h0 e1 hS hAX hf hL hF
    obtain ⟨t2, a1, b1⟩ := kx E ce q u t T'.heap (locs ++ L) e1.symm (by rw [← e2]; exact X'.warmed.alike) hp hb k1 k2 k3 (by rw [e1]; exact hce) hcv hcl T' rfl X'
    exact ⟨t2, st.trans a1, b1⟩
theorem vx_callf {S SX : Type} {post : UInt32 → S → Prop} {px : SX → Prop} {B : S → State → Prop} {BX : String → SX → State → Prop} {AX : Nat → Prop} (hr : vx_Run p l e R s m args below meth c H locs cells slots mc ms (F0 m pc ls st0) rest (va_Qf post B A1 a) (vx_X px BX AX) free) (hS : va_S A0 H0 H locs) (hA : ∀ q, q < H.size → A1 q → A0 q) (hf : ∀ q, free q → A0 q) (hAX : ∀ q, q < H.size → AX q → A0 q)
    (kx : ∀ (E : String) (ce : Cell) (q9 : Addr) (u : SX) (t : State) (H1 : Heap) (locs1 : List Loc), t.heap = H1 → s.vm.Alike t.vm → px u → BX E u t → H.size ≤ H1.size → (∀ q : Nat, q < H.size → ¬ AX q → H1[q]? = H[q]?) → va_S A0 H0 H1 locs1 → H1[q9]? = some ce → ce.vm = .none → s.vm.findClass E = some ce.cls → vx_W p l e R s m args below meth c H1 locs1 (cells + mc) (slots + ms) Q (F0 m pc ls rest) q9)
    (kk : ∀ (r : UInt32) (u : S) (t : State) (H1 : Heap) (locs1 : List Loc), t.heap = H1 → s.vm.Alike t.vm → post r u → B u t → H.size ≤ H1.size → (∀ q : Nat, q < H.size → ¬ A1 q → H1[q]? = H[q]?) → va_S A0 H0 H1 locs1 → W p l e R s m args below meth c H1 locs1 (cells + mc) (slots + ms) Q (F0 m (pc + 3) ls (.float r :: rest))) : W p l e R s m args below meth c H locs cells slots Q (F0 m pc ls st0) := by
  intro T hT X
  rcases hr T hT X with ⟨v, st₀, t, T', L, h0, X', hL, e1, e2, ⟨⟨r, u, hv, hp, hb⟩, hF⟩, st⟩ | ⟨q, st₀, t, T', L, E, ce, h0, X', hL, e1, e2, ⟨u, hp, hb, hF⟩, hce, hcv, hcl, st⟩
  · cases hv
    obtain ⟨k1, k2, k3⟩ := vx_keep h0 e1 hS hA hf hL hF
    obtain ⟨t2, a1, b1⟩ := kk r u t T'.heap (locs ++ L) e1.symm (by rw [← e2]; exact X'.warmed.alike) hp hb k1 k2 k3 T' rfl X'
    exact ⟨t2, st t2 a1, b1⟩
  · obtain ⟨k1, k2, k3⟩ := vx_keep h0 e1 hS hAX hf hL hF
    obtain ⟨t2, a1, b1⟩ := kx E ce q u t T'.heap (locs ++ L) e1.symm (by rw [← e2]; exact X'.warmed.alike) hp hb k1 k2 k3 (by rw [e1]; exact hce) hcv hcl T' rfl X'
    exact ⟨t2, st.trans a1, b1⟩
theorem vx_calld {S SX : Type} {post : UInt64 → S → Prop} {px : SX → Prop} {B : S → State → Prop} {BX : String → SX → State → Prop} {AX : Nat → Prop} (hr : vx_Run p l e R s m args below meth c H locs cells slots mc ms (F0 m pc ls st0) rest (va_Qd post B A1 a) (vx_X px BX AX) free) (hS : va_S A0 H0 H locs) (hA : ∀ q, q < H.size → A1 q → A0 q) (hf : ∀ q, free q → A0 q) (hAX : ∀ q, q < H.size → AX q → A0 q)
    (kx : ∀ (E : String) (ce : Cell) (q9 : Addr) (u : SX) (t : State) (H1 : Heap) (locs1 : List Loc), t.heap = H1 → s.vm.Alike t.vm → px u → BX E u t → H.size ≤ H1.size → (∀ q : Nat, q < H.size → ¬ AX q → H1[q]? = H[q]?) → va_S A0 H0 H1 locs1 → H1[q9]? = some ce → ce.vm = .none → s.vm.findClass E = some ce.cls → vx_W p l e R s m args below meth c H1 locs1 (cells + mc) (slots + ms) Q (F0 m pc ls rest) q9)
    (kk : ∀ (r : UInt64) (u : S) (t : State) (H1 : Heap) (locs1 : List Loc), t.heap = H1 → s.vm.Alike t.vm → post r u → B u t → H.size ≤ H1.size → (∀ q : Nat, q < H.size → ¬ A1 q → H1[q]? = H[q]?) → va_S A0 H0 H1 locs1 → W p l e R s m args below meth c H1 locs1 (cells + mc) (slots + ms) Q (F0 m (pc + 3) ls (.double r :: rest))) : W p l e R s m args below meth c H locs cells slots Q (F0 m pc ls st0) := by
  intro T hT X
  rcases hr T hT X with ⟨v, st₀, t, T', L, h0, X', hL, e1, e2, ⟨⟨r, u, hv, hp, hb⟩, hF⟩, st⟩ | ⟨q, st₀, t, T', L, E, ce, h0, X', hL, e1, e2, ⟨u, hp, hb, hF⟩, hce, hcv, hcl, st⟩
  · cases hv
    obtain ⟨k1, k2, k3⟩ := vx_keep h0 e1 hS hA hf hL hF
    obtain ⟨t2, a1, b1⟩ := kk r u t T'.heap (locs ++ L) e1.symm (by rw [← e2]; exact X'.warmed.alike) hp hb k1 k2 k3 T' rfl X'
    exact ⟨t2, st t2 a1, b1⟩
  · obtain ⟨k1, k2, k3⟩ := vx_keep h0 e1 hS hAX hf hL hF
    obtain ⟨t2, a1, b1⟩ := kx E ce q u t T'.heap (locs ++ L) e1.symm (by rw [← e2]; exact X'.warmed.alike) hp hb k1 k2 k3 (by rw [e1]; exact hce) hcv hcl T' rfl X'
    exact ⟨t2, st.trans a1, b1⟩
theorem vx_callv {S SX : Type} {post : S → Prop} {px : SX → Prop} {B : S → State → Prop} {BX : String → SX → State → Prop} {AX : Nat → Prop} (hr : vx_Run p l e R s m args below meth c H locs cells slots mc ms (F0 m pc ls st0) rest (va_Qv post B A1 a) (vx_X px BX AX) free) (hS : va_S A0 H0 H locs) (hA : ∀ q, q < H.size → A1 q → A0 q) (hf : ∀ q, free q → A0 q) (hAX : ∀ q, q < H.size → AX q → A0 q)
    (kx : ∀ (E : String) (ce : Cell) (q9 : Addr) (u : SX) (t : State) (H1 : Heap) (locs1 : List Loc), t.heap = H1 → s.vm.Alike t.vm → px u → BX E u t → H.size ≤ H1.size → (∀ q : Nat, q < H.size → ¬ AX q → H1[q]? = H[q]?) → va_S A0 H0 H1 locs1 → H1[q9]? = some ce → ce.vm = .none → s.vm.findClass E = some ce.cls → vx_W p l e R s m args below meth c H1 locs1 (cells + mc) (slots + ms) Q (F0 m pc ls rest) q9)
    (kk : ∀ (u : S) (t : State) (H1 : Heap) (locs1 : List Loc), t.heap = H1 → s.vm.Alike t.vm → post u → B u t → H.size ≤ H1.size → (∀ q : Nat, q < H.size → ¬ A1 q → H1[q]? = H[q]?) → va_S A0 H0 H1 locs1 → W p l e R s m args below meth c H1 locs1 (cells + mc) (slots + ms) Q (F0 m (pc + 3) ls (rest))) : W p l e R s m args below meth c H locs cells slots Q (F0 m pc ls st0) := by
  intro T hT X
  rcases hr T hT X with ⟨v, st₀, t, T', L, h0, X', hL, e1, e2, ⟨⟨u, hv, hp, hb⟩, hF⟩, st⟩ | ⟨q, st₀, t, T', L, E, ce, h0, X', hL, e1, e2, ⟨u, hp, hb, hF⟩, hce, hcv, hcl, st⟩
  · cases hv
    obtain ⟨k1, k2, k3⟩ := vx_keep h0 e1 hS hA hf hL hF
    obtain ⟨t2, a1, b1⟩ := kk u t T'.heap (locs ++ L) e1.symm (by rw [← e2]; exact X'.warmed.alike) hp hb k1 k2 k3 T' rfl X'
    exact ⟨t2, st t2 a1, b1⟩
  · obtain ⟨k1, k2, k3⟩ := vx_keep h0 e1 hS hAX hf hL hF
    obtain ⟨t2, a1, b1⟩ := kx E ce q u t T'.heap (locs ++ L) e1.symm (by rw [← e2]; exact X'.warmed.alike) hp hb k1 k2 k3 (by rw [e1]; exact hce) hcv hcl T' rfl X'
    exact ⟨t2, st.trans a1, b1⟩
/-- caught by the row x of this method's table; the rows ahead don't take it -/
theorem vx_catch {own name : String} {E : String} {ce : Cell} {q : Addr} (hown : s.vm.findClass own = some m.cls) (pre : List ExceptionTableEntry) (x : ExceptionTableEntry) (suf : List ExceptionTableEntry) (hsplit : c.exceptionTable.toList = pre ++ x :: suf)
    (hpass : ∀ z ∈ pre, covers z pc = false ∨ (z.catchType ≠ 0 ∧ ∃ nm : String, (Cond.classLink own z.catchType nm).before args s = true ∧ va_Nc E nm s)) (hx : covers x pc = true) (h0 : x.catchType ≠ 0)
    (hlink : (Cond.classLink own x.catchType name).before args s = true) (hcast : (Cond.castable E name).before args s = true) (hcell : H[q]? = some ce) (hv : ce.vm = .none) (hcl : s.vm.findClass E = some ce.cls)
    (kk : W p l e R s m args below meth c H locs cells slots Q (F0 m x.handlerPc ls [.ref q])) : vx_W p l e R s m args below meth c H locs cells slots Q (F0 m pc ls rest) q := by
  intro T hT X
  have hpl : e.platform.magicAccessors = ({} : Platform).magicAccessors := by rw [X.admits.platform]
  obtain ⟨c3, c4, hc3, hc4, hasg⟩ := Cond.castable_spec hcast
  cases Option.some.inj (hc3.symm.trans hcl)
  obtain ⟨c5, hc5, hcl5⟩ := Cond.classLink_spec hown hlink e.platform hpl
  cases Option.some.inj (hc4.symm.trans hc5)
  obtain ⟨vm', X', st⟩ := X.thenCaughtThrough q (g := F0 m pc ls rest) rfl (Steps.refl _) (by rw [hT]; exact hcell) (by rw [hv]; rfl) (by obtain ⟨k9, h9, -⟩ := Vm.findClass_spec hcl; exact ⟨k9, h9⟩) pre x suf hsplit
    (fun z hz => by
      rcases hpass z hz with h | ⟨hz0, nm, hl1, hn1⟩
      · exact Or.inl h
      · obtain ⟨c6, hc6, hcl6⟩ := Cond.classLink_spec hown hl1 e.platform hpl
        obtain ⟨a8, b8, h1, h2, h3⟩ := hn1
        cases Option.some.inj (h1.symm.trans hcl)
        cases Option.some.inj (h2.symm.trans hc6)
        exact Or.inr ⟨hz0, _, hcl6, h3⟩) hx (Or.inr ⟨h0, c4, hcl5, hasg⟩)
  obtain ⟨t, a1, b1⟩ := kk (T.setVm vm') hT X'
  exact ⟨t, st.trans a1, b1⟩
end Rows
section Ends
variable {p : Program} {l : Launch} {e : Env} {R : Room} {s : State} {m : MethodId} {args : Array Value} {below : List Frame} {meth : Method} {c : Code} {H : Heap} {locs : List Loc} {cells slots : Nat} {Q : State → Prop}
variable {mc ms : Nat} {free : Addr → Prop} {A0 A1 : Nat → Prop} {H0 : Heap} {a : Array Value} {ls : Array Slot} {st0 rest : List Value}
variable {Qc : Array Value → State → Outcome → State → Prop} {XC : String → State → State → Prop}
/-- what a body that may throw owes at its end -/
def vx_MQ (below : List Frame) (Qc : Array Value → State → Outcome → State → Prop) (XC : String → State → State → Prop) (a : Array Value) (s : State) (mc ms : Nat) (free : Addr → Prop) : State → Prop := fun t =>
  ∃ o, t.status = .running ∧ Ended t below o ∧ vx_Q Qc XC mc ms free a s o t
theorem vx_ret {g : JFrame} {mc ms : Nat} (k : W p l e R s m args below meth c H locs cells slots (MQ below Qc args s mc ms free) g) : W p l e R s m args below meth c H locs cells slots (vx_MQ below Qc XC args s mc ms free) g := by
  intro T hT X
  obtain ⟨t, a1, o, b1, b2, b3, b4⟩ := k T hT X
  exact ⟨t, a1, o, b1, b2, Or.inl ⟨b3, b4⟩⟩
/-- not caught here: it goes on to the caller -/
theorem vx_widen {g : JFrame} {q : Addr} {k n : Nat} (h1 : cells ≤ k) (h2 : slots ≤ n) (kk : vx_W p l e R s m args below meth c H locs k n Q g q) : vx_W p l e R s m args below meth c H locs cells slots Q g q := fun T hT X => kk T hT (stand_widen X h1 h2)
theorem vx_out {pc : Nat} {E : String} {ce : Cell} {q : Addr} {mc ms : Nat} (hout : ∀ x ∈ c.exceptionTable.toList, covers x pc = false) (hlocks : meth.locks = false) (hcell : H[q]? = some ce) (hv : ce.vm = .none) (hcl : s.vm.findClass E = some ce.cls)
    (hx : ∀ t : State, t.heap = H → s.vm.Alike t.vm → XC E s t) (hf : ∀ z ∈ locs, free z.base) (hc : cells ≤ mc) (hs : slots ≤ ms) :
    vx_W p l e R s m args below meth c H locs cells slots (vx_MQ below Qc XC args s mc ms free) (F0 m pc ls rest) q := by
  intro T hT X
  obtain ⟨st1, hrun, hend, hW, hsm⟩ := X.leaveThrown q (g := F0 m pc ls rest) rfl rfl rfl hout hlocks
  have hcell9 : (T.setFrames (.throwing q :: below)).heap[q]? = some ce := by
    show T.heap[q]? = some ce
    rw [hT]; exact hcell
  exact ⟨_, st1, .threw q, hrun, hend, Or.inr ⟨q, rfl, E, ce, locs, hx _ hT hW.alike, hcell9, hv, hcl, hW, hsm.mono hc hs, hf⟩⟩
theorem vx_frame {U : State} {k n : Nat} (h : s.sameButNew ({ U with vm := s.vm } : State) locs k n) : s.heap.size ≤ U.heap.size ∧ ∀ q : Nat, q < s.heap.size → (∀ z ∈ locs, z.base ≠ q) → U.heap[q]? = s.heap[q]? := by
  obtain ⟨-, h2, -, -, -, h6⟩ := h
  refine ⟨h2, fun q hq hz => ?_⟩
  obtain ⟨c9, e1, e2, e3, e4⟩ := h6 q _ (Array.getElem?_eq_getElem hq)
  have hs : c9.slots = (s.heap[q]).slots := Array.ext_getElem? fun i => e4 i fun hm => hz _ hm rfl
  have h9 : c9 = s.heap[q] := by
    rw [hs] at e2
    exact e2
  have e5 : U.heap[q]? = some c9 := e1
  rw [e5, h9, Array.getElem?_eq_getElem hq]
/-- the words of a throw but the four that speak of the heap -/
def vx_no (w : Cond) : Bool := decide (w ≠ .isRef (.static Bundle.tN "UNASSIGNED_STACK" Bundle.steD)) && decide (w ≠ .isRef (.static Bundle.tN "SUPPRESSED_SENTINEL" Bundle.listD)) && decide (w ≠ .laysStatic Bundle.tN "UNASSIGNED_STACK" Bundle.steD) && decide (w ≠ .laysStatic Bundle.tN "SUPPRESSED_SENTINEL" Bundle.listD)
def vx_at0 (own : String) (ic : Nat) (X : String) (names : List String) : List Cond := (Bundle.ownAtoms0 own ic X names).filter vx_no
def vx_atS (own : String) (ic : Nat) (X : String) (names : List String) : List Cond := (Bundle.ownAtoms own ic X names).filter vx_no
/-- a word that the tables alone decide, or a good one -/
def vx_ot (w : Cond) : Bool := w.onTables || goodWord w
theorem vx_ot_at {args a' : Array Value} {s U : State} {w : Cond} (hW : s.WarmedH U.vm) (hvm : s.vm = U.vm) (hg : vx_ot w = true) (h : w.before args s = true) : w.before a' U = true := by
  simp only [vx_ot, Bool.or_eq_true] at hg
  rcases hg with hg | hg
  · exact va_tabs hg hvm h
  · exact word_at hW (good_of_word hg) h
/-- a list's words: the good ones out of the method's own list, the others by premises of their own -/
theorem vx_hat {args : Array Value} {s : State} {L B : List Cond} (h1 : ∀ w ∈ L.filter goodWord, w.before args s = true) (h2 : ∀ w ∈ L.filter (fun w => !goodWord w), w ∈ B) (h3 : ∀ w ∈ B, w.before args s = true) : ∀ w ∈ L, w.before args s = true := by
  intro w hw
  by_cases g : goodWord w = true
  · exact h1 w (List.mem_filter.mpr ⟨hw, g⟩)
  · refine h3 w (h2 w (List.mem_filter.mpr ⟨hw, ?_⟩))
    show (!goodWord w) = true
    cases hgw : goodWord w
    · rfl
    · exact absurd hgw g
theorem vx_c {args : Array Value} {s : State} {w : Cond} {B : List Cond} (h : w.before args s = true) (t : ∀ w ∈ B, w.before args s = true) : ∀ w' ∈ w :: B, w'.before args s = true := fun w' h' => (List.mem_cons.mp h').elim (fun e => by rw [e]; exact h) (t w')
theorem vx_n {args : Array Value} {s : State} : ∀ w ∈ ([] : List Cond), w.before args s = true := fun _ h => nomatch h
theorem vx_own {args : Array Value} {s : State} {L : List Cond} (h1 : ∀ w ∈ L.filter vx_no, w.before args s = true)
    (hU : (Cond.isRef (.static Bundle.tN "UNASSIGNED_STACK" Bundle.steD)).before args s = true) (hN : (Cond.isRef (.static Bundle.tN "SUPPRESSED_SENTINEL" Bundle.listD)).before args s = true)
    (lU : (Cond.laysStatic Bundle.tN "UNASSIGNED_STACK" Bundle.steD).before args s = true) (lN : (Cond.laysStatic Bundle.tN "SUPPRESSED_SENTINEL" Bundle.listD).before args s = true) : ∀ w ∈ L, w.before args s = true := by
  intro w hw
  by_cases e1 : w = .isRef (.static Bundle.tN "UNASSIGNED_STACK" Bundle.steD)
  · rw [e1]; exact hU
  · by_cases e2 : w = .isRef (.static Bundle.tN "SUPPRESSED_SENTINEL" Bundle.listD)
    · rw [e2]; exact hN
    · by_cases e3 : w = .laysStatic Bundle.tN "UNASSIGNED_STACK" Bundle.steD
      · rw [e3]; exact lU
      · by_cases e4 : w = .laysStatic Bundle.tN "SUPPRESSED_SENTINEL" Bundle.listD
        · rw [e4]; exact lN
        · exact h1 w (List.mem_filter.mpr ⟨hw, by unfold vx_no; rw [decide_eq_true e1, decide_eq_true e2, decide_eq_true e3, decide_eq_true e4]; rfl⟩)
/-- where a static field lies, its class's statics cell in H -/
def vx_L (C n d : String) (A : Nat → Prop) (U : State) (H : Heap) : Prop := ∃ (c : ClassId) (k : Class) (i : Nat) (f : Field) (a : Nat) (cell : Cell), U.vm.findClass C = some c ∧ U.fieldFound? C n d = some (c, k, i, f) ∧ f.isStatic = true ∧ k.statics = some a ∧ H[a]? = some cell ∧ cell.vm.isStatics = true ∧ cell.cls = c ∧ f.slot < cell.slots.size ∧ k.staticTypes[f.slot]? = some f.type ∧ ¬ A a
theorem vx_L.moved {C n d : String} {A : Nat → Prop} {u U : State} {H : Heap} (hvm : u.vm.Alike U.vm) (h : vx_L C n d A u H) : vx_L C n d A U H := by
  obtain ⟨c, k, i, f, a, cell, h1, h2, h3, h4, h5, h6, h7, h8, h9, h10⟩ := h
  obtain ⟨k', hi', he⟩ := State.fieldFound?_setVm hvm h2
  exact ⟨c, k', i, f, a, cell, by rw [hvm.findClass]; exact h1, hi', h3, by rw [he]; exact h4, h5, h6, h7, h8, by rw [he]; exact h9, h10⟩
theorem vx_L.kept {C n d : String} {A : Nat → Prop} {U : State} {H H1 : Heap} (h : vx_L C n d A U H) (hq : ∀ a : Nat, a < H.size → ¬ A a → H1[a]? = H[a]?) : vx_L C n d A U H1 := by
  obtain ⟨c, k, i, f, a, cell, h1, h2, h3, h4, h5, h6, h7, h8, h9, h10⟩ := h
  exact ⟨c, k, i, f, a, cell, h1, h2, h3, h4, by rw [hq a (Array.getElem?_eq_some_iff.mp h5).1 h10]; exact h5, h6, h7, h8, h9, h10⟩
theorem vx_L.narrow {C n d : String} {A B : Nat → Prop} {U : State} {H : Heap} (h : vx_L C n d A U H) (hAB : ∀ q, B q → A q) : vx_L C n d B U H := by
  obtain ⟨c, k, i, f, a, cell, h1, h2, h3, h4, h5, h6, h7, h8, h9, h10⟩ := h
  exact ⟨c, k, i, f, a, cell, h1, h2, h3, h4, h5, h6, h7, h8, h9, fun z => h10 (hAB _ z)⟩
theorem vx_L.word {C n d : String} {A : Nat → Prop} {s : State} {args : Array Value} (h : vx_L C n d A s s.heap) : (Cond.laysStatic C n d).before args s = true := by
  obtain ⟨c, k, i, f, a, cell, h1, h2, h3, h4, h5, h6, h7, h8, h9, -⟩ := h
  show (Cond.laysStatic C n d).holds args s none s [] = true
  exact Cond.laysStatic_of h1 h2 h3 h4 h5 h6 h7 h8 h9
/-- .. and what it holds: null or some reference -/
def vx_Zq (C n d : String) (A : Nat → Prop) (U : State) (H : Heap) : Prop := va_Zq C n d A U H ∧ vx_L C n d A U H
theorem vx_Zq.moved {C n d : String} {A : Nat → Prop} {u U : State} {H : Heap} (hvm : u.vm.Alike U.vm) (h : vx_Zq C n d A u H) : vx_Zq C n d A U H := ⟨va_Zq.moved hvm h.1, vx_L.moved hvm h.2⟩
theorem vx_Zq.kept {C n d : String} {A : Nat → Prop} {U : State} {H H1 : Heap} (h : vx_Zq C n d A U H) (hq : ∀ a : Nat, a < H.size → ¬ A a → H1[a]? = H[a]?) : vx_Zq C n d A U H1 := ⟨va_Zq.kept h.1 hq, vx_L.kept h.2 hq⟩
theorem vx_Zq.narrow {C n d : String} {A B : Nat → Prop} {U : State} {H : Heap} (h : vx_Zq C n d A U H) (hAB : ∀ q, B q → A q) : vx_Zq C n d B U H := ⟨va_Zq.narrow h.1 hAB, vx_L.narrow h.2 hAB⟩
theorem vx_Zqof {args : Array Value} {s : State} {C n d : String} {A : Nat → Prop} (hl : (Cond.laysStatic C n d).before args s = true) (hini : (Cond.initialized C).before args s = true) (h : (Cond.isRef (.static C n d)).before args s = true) (hA : ∀ a : Nat, a < s.heap.size → ¬ A a) : vx_Zq C n d A s s.heap := by
  refine ⟨va_Zqof hl hini h hA, ?_⟩
  obtain ⟨c, k, i, f, a, cell, h1, h2, h3, h4, h5, h6, h7, h8, h9⟩ := Cond.laysStatic_spec hl
  exact ⟨c, k, i, f, a, cell, h1, h2, h3, h4, h5, h6, h7, h8, h9, hA a (Array.getElem?_eq_some_iff.mp h5).1⟩
theorem vx_isRef {C n d : String} {v : Value} {A : Nat → Prop} {s : State} {args : Array Value} (h : va_Z C n d v A s s.heap) (hv : v.isRef = true) : (Cond.isRef (.static C n d)).before args s = true := by
  obtain ⟨cf, kf, fi, f, a, cell, h1, h2, h3, h4, h5, h6, h7, -⟩ := h
  have he : (Term.static C n d).eval args s none [] s = some v := by
    simp [Term.eval, State.fieldNamed?, h1, h2, h4, h5, h6, h7]
  simp only [Cond.before, Cond.holds, Cond.value, he]
  cases v <;> simp_all [Value.isRef]
theorem vx_isRefq {C n d : String} {A : Nat → Prop} {s : State} {args : Array Value} (h : va_Zq C n d A s s.heap) : (Cond.isRef (.static C n d)).before args s = true := by
  rcases h with h | ⟨t, h⟩
  · exact vx_isRef h rfl
  · exact vx_isRef h rfl
/-- the same frame, seen from here: as if the method were called anew in this heap -/
theorem vx_rebase {T : State} (X : Stand p l e R s m args below meth c T locs cells slots) {R' : Room} (hf : R'.frames ≤ R.frames) (hl : R'.locals ≤ R.locals) (hc : cells + R'.cells ≤ R.cells) (hs : slots + R'.slots ≤ R.slots) :
    Stand p l e R' ((T.setVm s.vm).setFrames (.invoking m args :: below)) m args below meth c T [] 0 0 := by
  have htop : (T.setVm s.vm).topJava?.isSome := X.here.top
  have hF : ((T.setVm s.vm).setFrames (.invoking m args :: below)).frames = .invoking m args :: below := State.frames_setFrames _ (State.cur_lt_of_top htop)
  obtain ⟨g₀, hg0⟩ := Option.isSome_iff_exists.mp htop
  obtain ⟨r, hr⟩ := State.topJava?_eq_some.mp hg0
  have hl9 : e.platform.stackLimits (T.setVm s.vm).me = e.platform.stackLimits s.me := X.limits
  have hb9 : (T.setVm s.vm).me.stackBytes = s.me.stackBytes := X.bytes
  refine ⟨X.admits, X.cas, X.clock, hF, ?_, X.hears, X.method, X.code, X.here, X.tail, X.warmed, ?_, ?_, ?_⟩
  · have h := X.room
    have hU : ((T.setVm s.vm).setFrames (.invoking m args :: below)).localsInUse = s.localsInUse := by
      rw [State.localsInUse_invoking hF (meth := meth) (c := c) X.method X.code, State.localsInUse_invoking X.frames X.method X.code]
    simp only [State.hasRoom, Bool.and_eq_true, decide_eq_true_eq] at h ⊢
    obtain ⟨⟨⟨⟨h1, h2, h3, h4, h5, h6⟩, h7⟩, h8⟩, h9⟩ := h
    rw [X.frames, List.length_cons] at h2 h3
    have q1 := X.heapSize
    have q2 := X.used
    simp only [hF, hU, List.length_cons, State.stackLimits_setFrames, State.stackBytes_setFrames, hl9, hb9]
    refine ⟨⟨⟨⟨by omega, by omega, by omega, by omega, by omega, h6⟩, ?_⟩, ?_⟩, X.book⟩
    · show T.heap.size + R'.cells ≤ e.platform.maxCells
      omega
    · show T.slotsUsed + R'.slots ≤ e.platform.maxSlots
      omega
  · rw [State.stackLimits_setFrames]; rfl
  · rw [State.stackBytes_setFrames]; rfl
  · refine ⟨?_, Nat.le_refl _, Nat.le_refl _, ?_, ?_, fun a c9 h9 => ⟨c9, h9, rfl, rfl, fun _ _ => rfl⟩⟩
    · obtain ⟨t, ht, -⟩ := State.frames_cons hr
      show T.setVm s.vm = { ((T.setVm s.vm).setFrames (.invoking m args :: below)).setFrames (T.setVm s.vm).frames with heap := T.heap, slotsUsed := T.slotsUsed }
      rw [State.setFrames_setFrames, State.setFrames_self ht]
      rfl
    · show T.slotsUsed = T.slotsUsed + ((T.heap.toList.drop T.heap.size).map (·.slots.size)).sum
      rw [List.drop_eq_nil_of_le (Nat.le_of_eq Array.length_toList)]
      rfl
    · show ((T.heap.toList.drop T.heap.size).map (·.slots.size)).sum ≤ 0
      rw [List.drop_eq_nil_of_le (Nat.le_of_eq Array.length_toList)]
      exact Nat.le_refl _
/-- 'throw new E()': new; dup; invokespecial; athrow -/
theorem vx_throw0 {cc : ByteArray} {pc : Nat} (hexec : p.tables.exec = Jvm.exec) (hb : c.code = cc) (hl : l.stackTraces = false) {own cls : String} {names : List String} {ik ic mc ms : Nat} {A : Nat → Prop}
    (hown : s.vm.findClass own = some m.cls) (hcls : Bundle.fit cls = true) (hnames : ∀ n ∈ names, Bundle.fit n = true)
    (hk : (Cond.classLink own ik cls).before args s = true) (hini : (Cond.initialized cls).before args s = true) (hat : ∀ w ∈ vx_at0 own ic cls names, w.before args s = true)
    (hgood : ∀ w ∈ Cond.classLink own ik cls :: Cond.initialized cls :: vx_at0 own ic cls names, vx_ot w = true)
    (hU : vx_Zq Bundle.tN "UNASSIGNED_STACK" Bundle.steD A s s.heap) (hN : vx_Zq Bundle.tN "SUPPRESSED_SENTINEL" Bundle.listD A s s.heap) (hS : va_S A s.heap H locs) (hsize : ls.size = c.maxLocals)
    (d0 : decode cc pc = .ok (.new ik, 3)) (d3 : decode cc (pc + 3) = .ok (.dup, 1)) (d4 : decode cc (pc + 4) = .ok (.invokespecial ic, 3)) (d7 : decode cc (pc + 7) = .ok (.athrow, 1))
    (hout : ∀ x ∈ c.exceptionTable.toList, covers x (pc + 7) = false)
    (hRframes : names.length + 3 < R.frames) (hRlocals : (rest.map fun v => v.category).sum + (13 * (names.length + 1) + 42) ≤ R.locals) (hRcells : cells + 1 ≤ R.cells) (hRslots : slots + 6 ≤ R.slots) (hlocks : meth.locks = false)
    (hx : ∀ t : State, s.vm.Alike t.vm → H.size ≤ t.heap.size → (∀ q : Nat, q < H.size → t.heap[q]? = H[q]?) → XC cls s t)
    (hf : ∀ z ∈ locs, free z.base) (hc : cells + 1 ≤ mc) (hs : slots + 6 ≤ ms) :
    W p l e R s m args below meth c H locs cells slots (vx_MQ below Qc XC args s mc ms free) (F0 m pc ls rest) := by
  intro T hT X
  have htr : e.platform.stackTraces = false := (show e.platform.stackTraces = l.stackTraces by rw [X.admits.platform]).trans hl
  have Y := vx_rebase X (R' := { frames := R.frames, locals := R.locals, cells := 1, slots := 6 }) (Nat.le_refl _) (Nat.le_refl _) hRcells hRslots
  obtain ⟨s', hA⟩ : ∃ z, z = (T.setVm s.vm).setFrames (.invoking m args :: below) := ⟨_, rfl⟩
  rw [← hA] at Y
  have hvm : s'.vm = s.vm := by rw [hA]; rfl
  have hhp : s'.heap = H := by rw [hA]; exact hT
  have hW0 : s.WarmedH s'.vm := by rw [hvm]; exact State.WarmedH.refl s
  have hat' : ∀ w ∈ vx_at0 own ic cls names, w.before args s' = true := fun w hw => vx_ot_at hW0 hvm.symm (hgood w (List.mem_cons_of_mem _ (List.mem_cons_of_mem _ hw))) (hat w hw)
  have hk' : (Cond.classLink own ik cls).before args s' = true := vx_ot_at hW0 hvm.symm (hgood _ List.mem_cons_self) hk
  have hini' : (Cond.initialized cls).before args s' = true := vx_ot_at hW0 hvm.symm (hgood _ (List.mem_cons_of_mem _ List.mem_cons_self)) hini
  have hU' : vx_Zq Bundle.tN "UNASSIGNED_STACK" Bundle.steD A s' s'.heap := by rw [hhp]; exact vx_Zq.moved hW0.alike (hU.kept hS.2.1)
  have hN' : vx_Zq Bundle.tN "SUPPRESSED_SENTINEL" Bundle.listD A s' s'.heap := by rw [hhp]; exact vx_Zq.moved hW0.alike (hN.kept hS.2.1)
  have h : ∀ w ∈ Bundle.ownAtoms0 own ic cls names, w.before args s' = true := vx_own hat' (vx_isRefq hU'.1) (vx_isRefq hN'.1) hU'.2.word hN'.2.word
  have hown' : s'.vm.findClass own = some m.cls := by rw [hvm]; exact hown
  have hins : (Cond.instantiable cls 6).before args s' = true := h _ (by simp [Bundle.ownAtoms0])
  obtain ⟨vm₁, cX, kX, hfX, hkX, -, -, X₁, st1⟩ := Y.newCold hexec (own := own) (C := cls) (index := ik) (n := 6) hown' hk' hins hini'
    (g := F0 m pc ls rest) rfl (by rw [hb]; exact d0) (Nat.le_refl _) (Nat.le_refl _)
  generalize hT1 : (T.setVm vm₁).pushCell { cls := cX, slots := kX.instanceTypes.map defaultValue, vm := .none } = T1 at X₁ st1
  have hcat : (Value.ref T.heap.size).category = 1 := rfl
  have hcellA : T1.heap[T.heap.size]? = some (freshCell cX kX) := by rw [← hT1]; exact State.heap_pushCell_size _ _
  have d3' : decode c.code (pc + 3) = .ok (.dup, 1) := by rw [hb]; exact d3
  obtain ⟨U, hsteps, hrun, hend, hW, hsame, ce, hce, hO⟩ := X₁.ctorThrow0 hexec htr (own := own) (cls := cls) (names := names) (ic := ic) hown' hcls hnames h (fun x hx => nomatch hx) hfX hkX hcellA (by rw [hhp, hT]; exact Nat.le_refl _)
    (g := { method := m, pc := pc + 4, locals := ls, stack := .ref T.heap.size :: .ref T.heap.size :: rest, locked := none }) rfl hsize rfl rfl (rest := rest) rfl
    (by rw [hb]; exact d4) (by rw [hb]; exact d7) hout hRframes (by simp only [List.map_cons, List.sum_cons, hcat]; omega) hlocks
  obtain ⟨f1, f2⟩ := vx_frame hsame
  rw [hhp] at f1 f2
  have hWs : s.WarmedH U.vm := State.WarmedH.trans hW0 hW
  have hcl : s.vm.findClass cls = some ce.cls := by
    have h9 := hO.cls
    rw [hvm] at h9
    exact h9
  have hall : s.sameButNew ({ U with vm := s.vm } : State) locs mc ms := by
    subst hA
    obtain ⟨e1, e2⟩ := hsame
    rw [State.setFrames_setFrames] at e1
    have h2 : (T.setVm s.vm).sameButNew ({ U with vm := s.vm } : State) [] (0 + 1) (0 + 6) := ⟨e1, e2⟩
    have h3 := X.same.trans h2
    rw [List.append_nil] at h3
    exact h3.mono hc hs
  refine ⟨U, ?_, .threw T.heap.size, hrun, hend, Or.inr ⟨T.heap.size, rfl, cls, ce, locs, hx U hWs.alike f1 (fun q hq => f2 q hq (fun z hz => nomatch hz)), hce, hO.vm, hcl, hWs, hall, hf⟩⟩
  refine st1 _ ?_
  show Steps p.tables e below (T1.setTop { method := m, pc := pc + 3, locals := ls, stack := .ref T.heap.size :: rest, locked := none }) _
  jvm_step X₁.here [X₁.here.top, hexec, d3', Value.category]
  exact hsteps
/-- 'throw new E("text")': new; dup; ldc; invokespecial; athrow -/
theorem vx_throwS {cc : ByteArray} {pc : Nat} (hexec : p.tables.exec = Jvm.exec) (hb : c.code = cc) (hl : l.stackTraces = false) {own cls text : String} {names : List String} {ik is ic mc ms sa : Nat} {A : Nat → Prop}
    (hown : s.vm.findClass own = some m.cls) (hcls : Bundle.fit cls = true) (hnames : ∀ n ∈ names, Bundle.fit n = true)
    (hk : (Cond.classLink own ik cls).before args s = true) (hini : (Cond.initialized cls).before args s = true) (hstr : vk_R own is text sa s) (hat : ∀ w ∈ vx_atS own ic cls names, w.before args s = true)
    (hgood : ∀ w ∈ Cond.classLink own ik cls :: Cond.initialized cls :: vx_atS own ic cls names, vx_ot w = true)
    (hU : vx_Zq Bundle.tN "UNASSIGNED_STACK" Bundle.steD A s s.heap) (hN : vx_Zq Bundle.tN "SUPPRESSED_SENTINEL" Bundle.listD A s s.heap) (hS : va_S A s.heap H locs) (hsize : ls.size = c.maxLocals)
    (d0 : decode cc pc = .ok (.new ik, 3)) (d3 : decode cc (pc + 3) = .ok (.dup, 1)) (d4 : decode cc (pc + 4) = .ok (.ldc is, 2)) (d6 : decode cc (pc + 6) = .ok (.invokespecial ic, 3)) (d9 : decode cc (pc + 9) = .ok (.athrow, 1))
    (hout : ∀ x ∈ c.exceptionTable.toList, covers x (pc + 9) = false)
    (hRframes : names.length + 3 < R.frames) (hRlocals : (rest.map fun v => v.category).sum + (13 * (names.length + 1) + 43) ≤ R.locals) (hRcells : cells + 1 ≤ R.cells) (hRslots : slots + 6 ≤ R.slots) (hlocks : meth.locks = false)
    (hx : ∀ t : State, s.vm.Alike t.vm → H.size ≤ t.heap.size → (∀ q : Nat, q < H.size → t.heap[q]? = H[q]?) → XC cls s t)
    (hf : ∀ z ∈ locs, free z.base) (hc : cells + 1 ≤ mc) (hs : slots + 6 ≤ ms) :
    W p l e R s m args below meth c H locs cells slots (vx_MQ below Qc XC args s mc ms free) (F0 m pc ls rest) := by
  intro T hT X
  have htr : e.platform.stackTraces = false := (show e.platform.stackTraces = l.stackTraces by rw [X.admits.platform]).trans hl
  have Y := vx_rebase X (R' := { frames := R.frames, locals := R.locals, cells := 1, slots := 6 }) (Nat.le_refl _) (Nat.le_refl _) hRcells hRslots
  obtain ⟨s', hA⟩ : ∃ z, z = (T.setVm s.vm).setFrames (.invoking m args :: below) := ⟨_, rfl⟩
  rw [← hA] at Y
  have hvm : s'.vm = s.vm := by rw [hA]; rfl
  have hhp : s'.heap = H := by rw [hA]; exact hT
  have hW0 : s.WarmedH s'.vm := by rw [hvm]; exact State.WarmedH.refl s
  have hat' : ∀ w ∈ vx_atS own ic cls names, w.before args s' = true := fun w hw => vx_ot_at hW0 hvm.symm (hgood w (List.mem_cons_of_mem _ (List.mem_cons_of_mem _ hw))) (hat w hw)
  have hk' : (Cond.classLink own ik cls).before args s' = true := vx_ot_at hW0 hvm.symm (hgood _ List.mem_cons_self) hk
  have hini' : (Cond.initialized cls).before args s' = true := vx_ot_at hW0 hvm.symm (hgood _ (List.mem_cons_of_mem _ List.mem_cons_self)) hini
  have hU' : vx_Zq Bundle.tN "UNASSIGNED_STACK" Bundle.steD A s' s'.heap := by rw [hhp]; exact vx_Zq.moved hW0.alike (hU.kept hS.2.1)
  have hN' : vx_Zq Bundle.tN "SUPPRESSED_SENTINEL" Bundle.listD A s' s'.heap := by rw [hhp]; exact vx_Zq.moved hW0.alike (hN.kept hS.2.1)
  have h : ∀ w ∈ Bundle.ownAtoms own ic cls names, w.before args s' = true := vx_own hat' (vx_isRefq hU'.1) (vx_isRefq hN'.1) hU'.2.word hN'.2.word
  have hown' : s'.vm.findClass own = some m.cls := by rw [hvm]; exact hown
  have hins : (Cond.instantiable cls 6).before args s' = true := h _ (by simp [Bundle.ownAtoms])
  obtain ⟨vm₁, cX, kX, hfX, hkX, -, -, X₁, st1⟩ := Y.newCold hexec (own := own) (C := cls) (index := ik) (n := 6) hown' hk' hins hini'
    (g := F0 m pc ls rest) rfl (by rw [hb]; exact d0) (Nat.le_refl _) (Nat.le_refl _)
  generalize hT1 : (T.setVm vm₁).pushCell { cls := cX, slots := kX.instanceTypes.map defaultValue, vm := .none } = T1 at X₁ st1
  have hcat : (Value.ref T.heap.size).category = 1 := rfl
  have hcellA : T1.heap[T.heap.size]? = some (freshCell cX kX) := by rw [← hT1]; exact State.heap_pushCell_size _ _
  have d3' : decode c.code (pc + 3) = .ok (.dup, 1) := by rw [hb]; exact d3
  have d4' : decode c.code (pc + 4) = .ok (.ldc is, 2) := by rw [hb]; exact d4
  have hstr' : vk_R own is text sa s' := vk_R.warm hW0 hstr
  obtain ⟨U, hsteps, hrun, hend, hW, hsame, ce, hce, hO⟩ := X₁.ctorThrowS hexec htr (own := own) (cls := cls) (names := names) (ic := ic) hown' hcls hnames h (fun x hx => nomatch hx) hfX hkX hcellA (by rw [hhp, hT]; exact Nat.le_refl _) (msg := .ref sa) rfl
    (g := { method := m, pc := pc + 6, locals := ls, stack := .ref sa :: .ref T.heap.size :: .ref T.heap.size :: rest, locked := none }) rfl hsize rfl rfl (rest := rest) rfl
    (by rw [hb]; exact d6) (by rw [hb]; exact d9) hout hRframes (by simp only [List.map_cons, List.sum_cons, hcat]; omega) hlocks
  obtain ⟨f1, f2⟩ := vx_frame hsame
  rw [hhp] at f1 f2
  have hWs : s.WarmedH U.vm := State.WarmedH.trans hW0 hW
  have hcl : s.vm.findClass cls = some ce.cls := by
    have h9 := hO.cls
    rw [hvm] at h9
    exact h9
  have hall : s.sameButNew ({ U with vm := s.vm } : State) locs mc ms := by
    subst hA
    obtain ⟨e1, e2⟩ := hsame
    rw [State.setFrames_setFrames] at e1
    have h2 : (T.setVm s.vm).sameButNew ({ U with vm := s.vm } : State) [] (0 + 1) (0 + 6) := ⟨e1, e2⟩
    have h3 := X.same.trans h2
    rw [List.append_nil] at h3
    exact h3.mono hc hs
  refine ⟨U, ?_, .threw T.heap.size, hrun, hend, Or.inr ⟨T.heap.size, rfl, cls, ce, locs, hx U hWs.alike f1 (fun q hq => f2 q hq (fun z hz => nomatch hz)), hce, hO.vm, hcl, hWs, hall, hf⟩⟩
  refine st1 _ ?_
  show Steps p.tables e below (T1.setTop { method := m, pc := pc + 3, locals := ls, stack := .ref T.heap.size :: rest, locked := none }) _
  jvm_step X₁.here [X₁.here.top, hexec, d3', Value.category]
  exact X₁.ldcString hexec (own := own) (text := text) (index := is) (a := sa) hown' hstr'.1 hstr'.2
    (g := { method := m, pc := pc + 4, locals := ls, stack := .ref T.heap.size :: .ref T.heap.size :: rest, locked := none }) rfl d4' _ hsteps
/-- 'throw new E("text")', the text by a wide index -/
theorem vx_throwSW {cc : ByteArray} {pc : Nat} (hexec : p.tables.exec = Jvm.exec) (hb : c.code = cc) (hl : l.stackTraces = false) {own cls text : String} {names : List String} {ik is ic mc ms sa : Nat} {A : Nat → Prop}
    (hown : s.vm.findClass own = some m.cls) (hcls : Bundle.fit cls = true) (hnames : ∀ n ∈ names, Bundle.fit n = true)
    (hk : (Cond.classLink own ik cls).before args s = true) (hini : (Cond.initialized cls).before args s = true) (hstr : vk_R own is text sa s) (hat : ∀ w ∈ vx_atS own ic cls names, w.before args s = true)
    (hgood : ∀ w ∈ Cond.classLink own ik cls :: Cond.initialized cls :: vx_atS own ic cls names, vx_ot w = true)
    (hU : vx_Zq Bundle.tN "UNASSIGNED_STACK" Bundle.steD A s s.heap) (hN : vx_Zq Bundle.tN "SUPPRESSED_SENTINEL" Bundle.listD A s s.heap) (hS : va_S A s.heap H locs) (hsize : ls.size = c.maxLocals)
    (d0 : decode cc pc = .ok (.new ik, 3)) (d3 : decode cc (pc + 3) = .ok (.dup, 1)) (d4 : decode cc (pc + 4) = .ok (.ldc_w is, 3)) (d7 : decode cc (pc + 7) = .ok (.invokespecial ic, 3)) (d10 : decode cc (pc + 10) = .ok (.athrow, 1))
    (hout : ∀ x ∈ c.exceptionTable.toList, covers x (pc + 10) = false)
    (hRframes : names.length + 3 < R.frames) (hRlocals : (rest.map fun v => v.category).sum + (13 * (names.length + 1) + 43) ≤ R.locals) (hRcells : cells + 1 ≤ R.cells) (hRslots : slots + 6 ≤ R.slots) (hlocks : meth.locks = false)
    (hx : ∀ t : State, s.vm.Alike t.vm → H.size ≤ t.heap.size → (∀ q : Nat, q < H.size → t.heap[q]? = H[q]?) → XC cls s t)
    (hf : ∀ z ∈ locs, free z.base) (hc : cells + 1 ≤ mc) (hs : slots + 6 ≤ ms) :
    W p l e R s m args below meth c H locs cells slots (vx_MQ below Qc XC args s mc ms free) (F0 m pc ls rest) := by
  intro T hT X
  have htr : e.platform.stackTraces = false := (show e.platform.stackTraces = l.stackTraces by rw [X.admits.platform]).trans hl
  have Y := vx_rebase X (R' := { frames := R.frames, locals := R.locals, cells := 1, slots := 6 }) (Nat.le_refl _) (Nat.le_refl _) hRcells hRslots
  obtain ⟨s', hA⟩ : ∃ z, z = (T.setVm s.vm).setFrames (.invoking m args :: below) := ⟨_, rfl⟩
  rw [← hA] at Y
  have hvm : s'.vm = s.vm := by rw [hA]; rfl
  have hhp : s'.heap = H := by rw [hA]; exact hT
  have hW0 : s.WarmedH s'.vm := by rw [hvm]; exact State.WarmedH.refl s
  have hat' : ∀ w ∈ vx_atS own ic cls names, w.before args s' = true := fun w hw => vx_ot_at hW0 hvm.symm (hgood w (List.mem_cons_of_mem _ (List.mem_cons_of_mem _ hw))) (hat w hw)
  have hk' : (Cond.classLink own ik cls).before args s' = true := vx_ot_at hW0 hvm.symm (hgood _ List.mem_cons_self) hk
  have hini' : (Cond.initialized cls).before args s' = true := vx_ot_at hW0 hvm.symm (hgood _ (List.mem_cons_of_mem _ List.mem_cons_self)) hini
  have hU' : vx_Zq Bundle.tN "UNASSIGNED_STACK" Bundle.steD A s' s'.heap := by rw [hhp]; exact vx_Zq.moved hW0.alike (hU.kept hS.2.1)
  have hN' : vx_Zq Bundle.tN "SUPPRESSED_SENTINEL" Bundle.listD A s' s'.heap := by rw [hhp]; exact vx_Zq.moved hW0.alike (hN.kept hS.2.1)
  have h : ∀ w ∈ Bundle.ownAtoms own ic cls names, w.before args s' = true := vx_own hat' (vx_isRefq hU'.1) (vx_isRefq hN'.1) hU'.2.word hN'.2.word
  have hown' : s'.vm.findClass own = some m.cls := by rw [hvm]; exact hown
  have hins : (Cond.instantiable cls 6).before args s' = true := h _ (by simp [Bundle.ownAtoms])
  obtain ⟨vm₁, cX, kX, hfX, hkX, -, -, X₁, st1⟩ := Y.newCold hexec (own := own) (C := cls) (index := ik) (n := 6) hown' hk' hins hini'
    (g := F0 m pc ls rest) rfl (by rw [hb]; exact d0) (Nat.le_refl _) (Nat.le_refl _)
  generalize hT1 : (T.setVm vm₁).pushCell { cls := cX, slots := kX.instanceTypes.map defaultValue, vm := .none } = T1 at X₁ st1
  have hcat : (Value.ref T.heap.size).category = 1 := rfl
  have hcellA : T1.heap[T.heap.size]? = some (freshCell cX kX) := by rw [← hT1]; exact State.heap_pushCell_size _ _
  have d3' : decode c.code (pc + 3) = .ok (.dup, 1) := by rw [hb]; exact d3
  have d4' : decode c.code (pc + 4) = .ok (.ldc_w is, 3) := by rw [hb]; exact d4
  have hstr' : vk_R own is text sa s' := vk_R.warm hW0 hstr
  obtain ⟨U, hsteps, hrun, hend, hW, hsame, ce, hce, hO⟩ := X₁.ctorThrowS hexec htr (own := own) (cls := cls) (names := names) (ic := ic) hown' hcls hnames h (fun x hx => nomatch hx) hfX hkX hcellA (by rw [hhp, hT]; exact Nat.le_refl _) (msg := .ref sa) rfl
    (g := { method := m, pc := pc + 7, locals := ls, stack := .ref sa :: .ref T.heap.size :: .ref T.heap.size :: rest, locked := none }) rfl hsize rfl rfl (rest := rest) rfl
    (by rw [hb]; exact d7) (by rw [hb]; exact d10) hout hRframes (by simp only [List.map_cons, List.sum_cons, hcat]; omega) hlocks
  obtain ⟨f1, f2⟩ := vx_frame hsame
  rw [hhp] at f1 f2
  have hWs : s.WarmedH U.vm := State.WarmedH.trans hW0 hW
  have hcl : s.vm.findClass cls = some ce.cls := by
    have h9 := hO.cls
    rw [hvm] at h9
    exact h9
  have hall : s.sameButNew ({ U with vm := s.vm } : State) locs mc ms := by
    subst hA
    obtain ⟨e1, e2⟩ := hsame
    rw [State.setFrames_setFrames] at e1
    have h2 : (T.setVm s.vm).sameButNew ({ U with vm := s.vm } : State) [] (0 + 1) (0 + 6) := ⟨e1, e2⟩
    have h3 := X.same.trans h2
    rw [List.append_nil] at h3
    exact h3.mono hc hs
  refine ⟨U, ?_, .threw T.heap.size, hrun, hend, Or.inr ⟨T.heap.size, rfl, cls, ce, locs, hx U hWs.alike f1 (fun q hq => f2 q hq (fun z hz => nomatch hz)), hce, hO.vm, hcl, hWs, hall, hf⟩⟩
  refine st1 _ ?_
  show Steps p.tables e below (T1.setTop { method := m, pc := pc + 3, locals := ls, stack := .ref T.heap.size :: rest, locked := none }) _
  jvm_step X₁.here [X₁.here.top, hexec, d3', Value.category]
  exact X₁.ldcStringW hexec (own := own) (text := text) (index := is) (a := sa) hown' hstr'.1 hstr'.2
    (g := { method := m, pc := pc + 4, locals := ls, stack := .ref T.heap.size :: .ref T.heap.size :: rest, locked := none }) rfl d4' _ hsteps
end Ends
section Bodies
variable {l : Launch}
theorem vx_ofW {y : MethodName} {ws ws' : List Cond} {rm : Room} {Pc : Array Value → State → Prop} {Qc : Array Value → State → Outcome → State → Prop} {XC : String → State → State → Prop} {mc ms : Nat} {free : Addr → Prop} {cc : ByteArray} {maxL : Nat} {ret : Option FieldType}
    (hy : plainName y.cls = true) (hw : ws = Cond.code y cc maxL ret :: ws')
    (body : ∀ p e s m args below meth c s₁, BodyLoose p l y (headSpec ws rm) cc maxL ret e s m args below meth c s₁ → c.maxLocals = maxL → (∀ x ∈ c.exceptionTable.toList, False) → Pc args s →
      W p l e (headSpec ws rm).room s m args below meth c s.heap [] 0 0 (vx_MQ below Qc XC args s mc ms free) (entryFrame m args maxL)) : vx_Met l y ws rm Pc Qc XC mc ms free := by
  refine MetFree.of_bodyS (code := cc) (maxLocals := maxL) (ret := ret) hy ?_ ?_
  · intro args s m h hn
    obtain ⟨meth, c, h1, h2, h3, h4, h5, h6, -, -⟩ := Cond.code_spec hn (atoms_spec (ws := ws) h _ (by rw [hw]; exact List.mem_cons_self))
    exact ⟨meth, c, h1, h2, h3, h4, h5, h6⟩
  · intro p e s m args below meth c s₁ B hml hP _
    have hh0 : s₁.heap = s.heap := by rw [B.state]; rfl
    have ht : ∀ x ∈ c.exceptionTable.toList, False := by
      obtain ⟨meth9, c9, h1, h2, -, -, -, -, h7, -⟩ := Cond.code_spec B.named (atoms_spec (ws := ws) B.pre _ (by rw [hw]; exact List.mem_cons_self))
      cases Option.some.inj (h1.symm.trans B.method)
      cases Option.some.inj (h2.symm.trans (Stand.of_body B).code)
      intro x hx
      rw [Array.isEmpty_iff.mp h7] at hx
      cases hx
    obtain ⟨t, a1, o, b1, b2, b3⟩ := body p e s m args below meth c s₁ B hml ht hP s₁ hh0 (Stand.of_body B)
    exact ⟨t, o, a1, b1, b2, b3⟩
/-- the table of a body with handlers -/
theorem vx_table {p : Program} {x y : MethodName} {S : Spec} {cc bytes : ByteArray} {maxL maxL' : Nat} {ret ret' : Option FieldType} {e : Env} {s s₁ : State} {m : MethodId} {args : Array Value} {below : List Frame} {meth : Method} {c : Code} {hh : List (Nat × Nat × Nat × Nat)}
    (B : BodyLoose p l y S cc maxL ret e s m args below meth c s₁) (h : (Cond.codeWith y bytes maxL' ret' hh).before args s = true) : c.exceptionTable.toList = tableOf hh := by
  obtain ⟨m9, meth9, c9, hn9, h1, h2, -, -, h6, -⟩ := Cond.codeWith_spec h
  cases Option.some.inj (hn9.symm.trans B.named)
  cases Option.some.inj (h1.symm.trans B.method)
  cases Option.some.inj (h2.symm.trans (Stand.of_body B).code)
  rw [← h6, table_eq]
end Bodies
end VXA
/-! ===== END ===== -/
/-! ===== BEGIN a static call of a method with an exception table ===== -/
section VXS
variable {p : Program} {l : Launch} {e : Env} {R : Room} {s : State} {m : MethodId} {args : Array Value} {below : List Frame} {meth : Method} {c : Code} {T : State} {H : Heap} {locs : List Loc} {cells slots : Nat}
abbrev vx_CSW (R : Room) (s : State) (args : Array Value) (own : String) (index : Nat) (y : MethodName) (bytes : ByteArray) (maxL : Nat) (ret : Option FieldType) (hh : List (Nat × Nat × Nat × Nat)) (ws : List Cond) (rm : Room) (mc ms n : Nat) : Prop :=
  (rm.cells = mc ∧ rm.slots = ms ∧ rm.frames + 1 ≤ R.frames ∧ 8 + (maxL + 11) + rm.locals ≤ R.locals ∧ (∀ w ∈ ws, ∀ (a' : Array Value) (U : State), s.WarmedH U.vm → w.before a' U = true) ∧ Cond.codeWith y bytes maxL ret hh ∈ ws) ∧
  (Cond.codeWith y bytes maxL ret hh).before args s = true ∧ (Cond.initialized y.cls).before args s = true ∧ (y.cls ≠ "java/lang/invoke/MethodHandle" ∧ y.cls ≠ "java/lang/invoke/VarHandle") ∧
  (∀ sig, parseMethodDescriptor y.desc = some sig → n = sig.parameters.length) ∧ (Cond.methodLink own index y).before args s = true ∧ (Cond.static y).before args s = true
theorem vx_cwSW {own : String} {index maxL mc ms : Nat} {y : MethodName} {bytes : ByteArray} {ret : Option FieldType} {hh : List (Nat × Nat × Nat × Nat)} {Ts ws ws' : List Cond} {rm : Room} (n : Nat) (ht : ∀ w ∈ Ts, w.before args s = true) (hT : GoodIn Ts (va_wsS own index y ws)) (hw : ws = Cond.codeWith y bytes maxL ret hh :: ws') (hrc : rm.cells = mc) (hrs : rm.slots = ms)
    (hd : y.cls ≠ "java/lang/invoke/MethodHandle" ∧ y.cls ≠ "java/lang/invoke/VarHandle" ∧ (parseMethodDescriptor y.desc).map (fun d => d.parameters.length) = some n) (hR : rm.frames + 1 ≤ R.frames ∧ 8 + (maxL + 11) + rm.locals ≤ R.locals) :
    vx_CSW R s args own index y bytes maxL ret hh ws rm mc ms n := by
  have ok : ∀ w ∈ va_wsS own index y ws, w.before args s = true := fun w h => ht w (hT w h).1
  have hG : GoodIn Ts ws := fun w h => hT w (by unfold va_wsS; exact List.mem_append_right _ h)
  have hc : Cond.codeWith y bytes maxL ret hh ∈ ws := by rw [hw]; exact List.mem_cons_self
  refine ⟨⟨hrc, hrs, hR.1, hR.2, pay_in ht hG, hc⟩, ht _ (hG _ hc).1, ok _ (by simp [va_wsS]), ⟨hd.1, hd.2.1⟩, fun sig h => ?_, ok _ (by simp [va_wsS]), ok _ (by simp [va_wsS])⟩
  have h2 := hd.2.2
  rw [h] at h2
  exact (Option.some.inj h2).symm
theorem vx_callSW (X : Stand p l e R s m args below meth c T locs cells slots) (hexec : p.tables.exec = Jvm.exec) {own : String} {index : Nat} {y : MethodName} {bytes : ByteArray} {maxL : Nat} {ret : Option FieldType} {hh : List (Nat × Nat × Nat × Nat)}
    (hown : s.vm.findClass own = some m.cls) (hlink : (Cond.methodLink own index y).before args s = true) (hstat : (Cond.static y).before args s = true) (hinit : (Cond.initialized y.cls).before args s = true)
    (hcode : (Cond.codeWith y bytes maxL ret hh).before args s = true) (hy : y.cls ≠ "java/lang/invoke/MethodHandle" ∧ y.cls ≠ "java/lang/invoke/VarHandle")
    {W9 : Nat} {Pre : Pt → Array Value → Prop} {Post : Pt → Array Value → Option Value → Pt → Prop} (hK : Back l R p e below s args y 3 W9 Pre Post)
    {g : JFrame} (hg : g.method = m) (hsize : g.locals.size = c.maxLocals) {argsL rest : List Value} (hlen : ∀ sig, parseMethodDescriptor y.desc = some sig → argsL.length = sig.parameters.length)
    (hstack : g.stack = argsL.reverse ++ rest) (hW : 2 * g.monitorRoom + (rest.map fun v => v.category).sum ≤ W9) (hdg : decode c.code g.pc = .ok (.invokestatic index, 3))
    (hpre : ∀ vm₁, s.WarmedH vm₁ → Pre ⟨T.setVm vm₁, locs, cells, slots⟩ argsL.toArray) :
    ∃ (v : Option Value) (vm₁ : Vm) (B : Pt), s.WarmedH vm₁ ∧ Stand p l e R s m args below meth c B.U B.locs B.cells B.slots ∧ Post ⟨T.setVm vm₁, locs, cells, slots⟩ argsL.toArray v B ∧
      ∀ target, Steps p.tables e below (B.U.setTop { g with pc := g.pc + 3, stack := v.toList ++ rest }) target → Steps p.tables e below (T.setTop g) target := by
  obtain ⟨mk, methM, cM, hnamed, hmethM, -, -, -, -, -, -, hsigM⟩ := Cond.codeWith_spec hcode
  have hstatic : methM.isStatic = true := Cond.static_spec hnamed hmethM hstat
  obtain ⟨kP, hkP, -⟩ := className_of_methodNamed hnamed
  have hinitP : kP.init = .initialized := Cond.initialized_spec (findClass_of_methodNamed hnamed) hkP hinit
  obtain ⟨vm₁, X₁, hstep₁⟩ := X.invokestatic hexec hown hlink hnamed hmethM hstatic hkP hinitP hy (g := g) hg (argsL := argsL) (rest := rest) (hlen _ hsigM) hstack hdg
  obtain ⟨v, B, X', hpost, hsteps⟩ := hK m meth c ⟨T.setVm vm₁, locs, cells, slots⟩ { g with stack := rest } (.invokestatic index) mk argsL.toArray X₁ hg hsize hdg hW (X₁.named hnamed) (hpre vm₁ X₁.warmed)
  exact ⟨v, vm₁, B, X₁.warmed, X', hpost, fun target h => hstep₁ _ fun acts => by rw [doInvoke_state]; exact hsteps.trans h⟩
theorem vx_runSW {y : MethodName} {bytes cc : ByteArray} {maxL nL mc ms n index : Nat} {ret : Option FieldType} {hh : List (Nat × Nat × Nat × Nat)} {ws : List Cond} {rm : Room} {Pc : Array Value → State → Prop} {Qc : Array Value → State → Outcome → State → Prop} {free : Addr → Prop} {Ts : List Cond} {own : String} {As rest : List Value} {g : JFrame}
    (S : CallFix p m c cc nL s args Ts own) (hM : Met l y ws rm Pc Qc mc ms free) (cw : vx_CSW R s args own index y bytes maxL ret hh ws rm mc ms n) (hp : PreS s H Pc As)
    (hg : g.method = m) (hn : As.length = n) (hsize : g.locals.size = nL) (hstack : g.stack = As.reverse ++ rest) (hW : 2 * g.monitorRoom + (rest.map fun v => v.category).sum ≤ 8) (hdg : decode cc g.pc = .ok (.invokestatic index, 3)) (hf : cells + mc ≤ R.cells ∧ slots + ms ≤ R.slots) :
    va_Run p l e R s m args below meth c H locs cells slots mc ms g rest (Qc As.toArray) (free) := by
  obtain ⟨⟨hrc, hrs, hfr, hlo, hws, hcw⟩, hcode, hini, hy, hlen, hl, hstt⟩ := cw
  have hK : Back l R p e below s args y 3 8 (PreOf R mc ms Pc) (PostOf Qc mc ms free) := va_backW (hh := hh) (bytes := bytes) (maxL := maxL) (ret := ret) hM hp.1 hrc hrs hfr hlo hws hcw (fun a' U hW => word_at hW (Or.inl (by first | rfl | simp [Cond.onTables, Cond.keeps, Cond.steady])) hini)
  obtain ⟨hx, hb, hml, ho, -⟩ := S
  intro T hT X
  obtain ⟨v, vm₁, ⟨U', l2, c2, s2⟩, hW₁, X', ⟨g', mk, t, L, e1, e2, hq, h1, hL, h2, h3⟩, st⟩ := vx_callSW X hx (hh := hh) (bytes := bytes) (maxL := maxL) (ret := ret) ho hl hstt hini hcode hy hK hg (hsize.trans hml.symm) (argsL := As) (rest := rest) (fun sig h => hn.trans (hlen sig h)) hstack hW (by rw [hb]; exact hdg)
    (fun vm₁ hW₁ => ⟨hf.1, hf.2, hp.2 (T.setVm vm₁) hT hW₁⟩)
  dsimp only [Pt.U, Pt.locs, Pt.cells, Pt.slots] at X' e1 e2 h1 h2 h3 st
  subst h1; subst h2; subst h3
  exact ⟨v, (T.setVm vm₁).calling g' mk As.toArray, t, U', L, hT, X', hL, e1, e2, hq, st⟩
/-- not caught here, past rows that name other classes: it goes on to the caller -/
theorem vx_outP {p : Program} {l : Launch} {e : Env} {R : Room} {s : State} {m : MethodId} {args : Array Value} {below : List Frame} {meth : Method} {c : Code} {H : Heap} {locs : List Loc} {cells slots : Nat} {free : Addr → Prop} {ls : Array Slot} {rest : List Value} {Qc : Array Value → State → Outcome → State → Prop} {XC : String → State → State → Prop}
    {pc : Nat} {own E : String} {ce : Cell} {q : Addr} {mc ms : Nat} (hown : s.vm.findClass own = some m.cls) (hlocks : meth.locks = false)
    (hpass : ∀ z ∈ c.exceptionTable.toList, covers z pc = false ∨ (z.catchType ≠ 0 ∧ ∃ nm : String, (Cond.classLink own z.catchType nm).before args s = true ∧ va_Nc E nm s)) (hcell : H[q]? = some ce) (hv : ce.vm = .none) (hcl : s.vm.findClass E = some ce.cls)
    (hx : ∀ t : State, t.heap = H → s.vm.Alike t.vm → XC E s t) (hf : ∀ z ∈ locs, free z.base) (hc : cells ≤ mc) (hs : slots ≤ ms) :
    vx_W p l e R s m args below meth c H locs cells slots (vx_MQ below Qc XC args s mc ms free) (F0 m pc ls rest) q := by
  intro T hT X
  have hpl : e.platform.magicAccessors = ({} : Platform).magicAccessors := by rw [X.admits.platform]
  obtain ⟨vm', hW', X', st⟩ := X.outThrough hlocks q (g := F0 m pc ls rest) rfl rfl rfl (cell := ce) (by rw [hT]; exact hcell) (by rw [hv]; rfl)
    (by obtain ⟨k9, h9, -⟩ := Vm.findClass_spec hcl; exact ⟨k9, h9⟩) (fun z hz => by
      rcases hpass z hz with h | ⟨hz0, nm, hl1, hn1⟩
      · exact Or.inl h
      · obtain ⟨c6, hc6, hcl6⟩ := Cond.classLink_spec hown hl1 e.platform hpl
        obtain ⟨a8, b8, h1, h2, h3⟩ := hn1
        cases Option.some.inj (h1.symm.trans hcl)
        cases Option.some.inj (h2.symm.trans hc6)
        exact Or.inr ⟨hz0, _, hcl6, h3⟩)
  obtain ⟨g₀, hfr⟩ := X'.frames_eq
  have hcell9 : ((T.setVm vm').setFrames (.throwing q :: below)).heap[q]? = some ce := by
    show T.heap[q]? = some ce
    rw [hT]; exact hcell
  have hend : Ended ((T.setVm vm').setFrames (.throwing q :: below)) below (.threw q) := State.frames_setFrames _ (State.cur_lt_of_frames hfr)
  refine ⟨(T.setVm vm').setFrames (.throwing q :: below), ?_, .threw q, X'.here.running, hend, Or.inr ⟨q, rfl, E, ce, locs, hx _ hT (X'.ends _).1.alike, hcell9, hv, hcl, (X'.ends _).1, (X'.ends _).2.mono hc hs, hf⟩⟩
  rw [X.pushThrowing_eq]
  exact st
/-- a thing of a world lies in the heap -/
theorem vx_lt {D : va_G} {cl : List vw_C} {ws : va_W} {H1 : Heap} (h : va_P D cl ws H1) {k : Nat} {q : Nat × va_E} (hk : ws[k]? = some q) : q.1 < H1.size := (h k q hk).lt
end VXS
/-! ===== END ===== -/
/-! ===== BEGIN methods with a table of their own: called by a name, returning or throwing ===== -/
section VXH
/-! vx_backW, vx_callVX, vx_callSX, vx_callVW, vx_runVW, vx_runVX, vx_runSX, vx_ofWH follow the same proofs as their sisters above (Free/Laws.lean, Shelf42/LK1.lean); vx_outP calls Shelf42/NT130.lean (outThrough). -/
section
variable {l : Launch} {R : Room} {p : Program} {e : Env} {below : List Frame} {s : State} {sargs : Array Value} {y : MethodName} {len W9 : Nat}
theorem vx_backW {ws : List Cond} {rm : Room} {Pc : Array Value → State → Prop} {Qc : Array Value → State → Outcome → State → Prop} {XC : String → State → State → Prop} {mc ms : Nat} {free : Addr → Prop} {bytes : ByteArray} {maxL : Nat} {ret : Option FieldType} {hh : List (Nat × Nat × Nat × Nat)}
    (hM : vx_Met l y ws rm Pc Qc XC mc ms free) (hblind : FrameBlind Pc) (hrc : rm.cells = mc) (hrs : rm.slots = ms)
    (hframes : rm.frames + 1 ≤ R.frames) (hlocals : W9 + (maxL + 11) + rm.locals ≤ R.locals)
    (hws : ∀ w ∈ ws, ∀ a' U, s.WarmedH U.vm → w.before a' U = true) (hcode : Cond.codeWith y bytes maxL ret hh ∈ ws) (hinit : ∀ a' U, s.WarmedH U.vm → (Cond.initialized y.cls).before a' U = true) :
    vx_Back l R p e below s sargs y len W9 (PreOf R mc ms Pc) (PostOf Qc mc ms free) (vx_Post XC mc ms free) := by
  intro m meth c A g ig mk a X hg hsize hdg hW hn hp
  have h1 : (headSpec ws rm).pre.before a A.U = true := atoms_intro fun w hw => hws w hw _ _ X.warmed
  have h2 : (Cond.codeWith y bytes maxL ret hh).before a A.U = true := hws _ hcode _ _ X.warmed
  have h3 : (Cond.initialized y.cls).before a A.U = true := hinit _ _ X.warmed
  have h4 : A.cells + (headSpec ws rm).room.cells ≤ R.cells := by rw [show (headSpec ws rm).room.cells = mc from hrc]; exact hp.1
  have h5 : A.slots + (headSpec ws rm).room.slots ≤ R.slots := by rw [show (headSpec ws rm).room.slots = ms from hrs]; exact hp.2.1
  have hPc : Pc a (A.U.calling g mk a) := hblind _ _ _ _ hp.2.2
  obtain ⟨U, Ls, c0, s0⟩ := A
  dsimp only [Pt.U, Pt.locs, Pt.cells, Pt.slots] at h1 h2 h3 h4 h5 X hn hPc ⊢
  obtain ⟨m9, methY, cY, hn9, hmY, hcY, -, hlY, -⟩ := Cond.codeWith_spec h2
  cases Option.some.inj (hn9.symm.trans hn)
  obtain ⟨kY, hkY, -⟩ := className_of_methodNamed hn
  have hinitY : kY.init = .initialized := Cond.initialized_spec (findClass_of_methodNamed hn) hkY h3
  have h : At U g.method c below := by rw [hg]; exact X.here
  have hlocals9 : W9 + (maxL + 11) + (headSpec ws rm).room.locals ≤ R.locals := hlocals
  have happ : (headSpec ws rm).appliesLoose y e.platform (U.calling g mk a) = true :=
    Spec.appliesLoose_calling (g := g) h hdg hn hkY hinitY
      (X.room_calling (g := g) (R' := (headSpec ws rm).room) hsize hmY hcY hframes (by rw [hlY]; omega) h4 h5) h1
  obtain ⟨mid, hmid⟩ := h.above
  have hfr : (U.setTop g).frames = (.java g :: mid) ++ below := by rw [State.frames_setTop' g h.top, hmid]; rfl
  obtain ⟨o, s₂, hsteps, -, hend, hq⟩ := Steps.callFree hM p X.admits X.cas X.clock (acts := []) hfr happ hPc trivial
  have hq' : vx_Q Qc XC mc ms free a (U.calling g mk a) o s₂ := hq
  rw [State.frames_setTop' g h.top] at hend
  obtain ⟨g₀, hg0⟩ := Option.isSome_iff_exists.mp h.top
  obtain ⟨r, hr⟩ := State.topJava?_eq_some.mp hg0
  have hr' : (({ U with heap := s₂.heap, slotsUsed := s₂.slotsUsed } : State).setVm s₂.vm).frames = .java g₀ :: r := hr
  rcases hq' with ⟨hqc, L, hfe, hL⟩ | ⟨q, rfl, E, ce, L, hx, hce, hcv, hcl, hW₂, hsm, hL⟩
  · obtain ⟨⟨v, rfl⟩, hW₂, e2, q2, q3, q4, q5, q6⟩ := id hfe
    have e3 : s₂ = ({ (U.calling g mk a).setFrames s₂.frames with heap := s₂.heap, slotsUsed := s₂.slotsUsed } : State).setVm s₂.vm := by
      have : s₂ = ({ s₂ with vm := (U.calling g mk a).vm } : State).setVm s₂.vm := rfl
      rw [e2] at this
      exact this
    obtain ⟨c₂, i₂, len₂, hc₂, hd₂, hf₂⟩ := hend
    have hW' : U.WarmedH s₂.vm := hW₂
    have hcc : c₂ = c := by
      have h1 : s₂.code? g.method = U.code? g.method := by
        rw [State.code?_eq, State.code?_eq, hW'.alike.method?]
      exact Option.some.inj (hc₂.symm.trans (h1.trans h.code))
    subst hcc
    have hlen : len₂ = len := by rw [hdg] at hd₂; cases hd₂; rfl
    subst hlen
    have hs₂ : s₂ = (({ U with heap := s₂.heap, slotsUsed := s₂.slotsUsed } : State).setVm s₂.vm).setTop { g with pc := g.pc + len₂, stack := v.toList ++ g.stack } := by
      refine e3.trans ?_
      rw [hf₂, State.calling_eq h.top, State.setFrames_setFrames, State.setTop_of_frames _ hr', hr]
      rfl
    have hsame : U.sameButNew ({ U with heap := s₂.heap, slotsUsed := s₂.slotsUsed } : State) L mc ms := by
      refine ⟨?_, q2, q3, q4, q5, q6⟩
      obtain ⟨t, ht, -⟩ := State.frames_cons hr
      show ({ U with heap := s₂.heap, slotsUsed := s₂.slotsUsed } : State) = { U.setFrames U.frames with heap := s₂.heap, slotsUsed := s₂.slotsUsed }
      rw [State.setFrames_self ht]
    subst hg
    refine Or.inl ⟨v, ⟨(({ U with heap := s₂.heap, slotsUsed := s₂.slotsUsed } : State).setVm s₂.vm), Ls ++ L, c0 + mc, s0 + ms⟩,
      ⟨X.admits, X.cas, X.clock, X.frames, X.room, X.hears, X.method, X.code, (X.here.setHeapUsed s₂.heap s₂.slotsUsed).setVm hW'.alike, X.tail, State.WarmedH.trans X.warmed hW', X.limits, X.bytes, X.same.trans (hsame.setVm s.vm)⟩,
      ⟨g, mk, s₂, L, rfl, rfl, hqc, rfl, hL, rfl, rfl⟩, ?_⟩
    show Steps p.tables e below _ ((({ U with heap := s₂.heap, slotsUsed := s₂.slotsUsed } : State).setVm s₂.vm).setTop { g with pc := g.pc + len₂, stack := v.toList ++ g.stack })
    rw [← hs₂]
    exact hsteps
  · obtain ⟨e2, q2, q3, q4, q5, q6⟩ := id hsm
    have e3 : s₂ = ({ (U.calling g mk a).setFrames s₂.frames with heap := s₂.heap, slotsUsed := s₂.slotsUsed } : State).setVm s₂.vm := by
      have : s₂ = ({ s₂ with vm := (U.calling g mk a).vm } : State).setVm s₂.vm := rfl
      rw [e2] at this
      exact this
    have hf₂ : s₂.frames = .throwing q :: .java g :: U.frames.tail := hend
    have hW' : U.WarmedH s₂.vm := hW₂
    have hs₂ : s₂ = ((({ U with heap := s₂.heap, slotsUsed := s₂.slotsUsed } : State).setVm s₂.vm).setTop g).pushFrame (.throwing q) := by
      refine e3.trans ?_
      rw [hf₂, State.calling_eq h.top, State.setFrames_setFrames, State.pushFrame, State.frames_setTop _ hr', State.setTop_of_frames _ hr', State.setFrames_setFrames, hr]
      rfl
    have hsame : U.sameButNew ({ U with heap := s₂.heap, slotsUsed := s₂.slotsUsed } : State) L mc ms := by
      refine ⟨?_, q2, q3, q4, q5, q6⟩
      obtain ⟨t, ht, -⟩ := State.frames_cons hr
      show ({ U with heap := s₂.heap, slotsUsed := s₂.slotsUsed } : State) = { U.setFrames U.frames with heap := s₂.heap, slotsUsed := s₂.slotsUsed }
      rw [State.setFrames_self ht]
    subst hg
    refine Or.inr ⟨q, ⟨(({ U with heap := s₂.heap, slotsUsed := s₂.slotsUsed } : State).setVm s₂.vm), Ls ++ L, c0 + mc, s0 + ms⟩,
      ⟨X.admits, X.cas, X.clock, X.frames, X.room, X.hears, X.method, X.code, (X.here.setHeapUsed s₂.heap s₂.slotsUsed).setVm hW'.alike, X.tail, State.WarmedH.trans X.warmed hW', X.limits, X.bytes, X.same.trans (hsame.setVm s.vm)⟩,
      ⟨g, mk, s₂, L, E, ce, rfl, rfl, hx, hce, hcv, hcl, rfl, hL, rfl, rfl⟩, ?_⟩
    show Steps p.tables e below _ (((({ U with heap := s₂.heap, slotsUsed := s₂.slotsUsed } : State).setVm s₂.vm).setTop g).pushFrame (.throwing q))
    rw [← hs₂]
    exact hsteps
end
variable {p : Program} {l : Launch} {e : Env} {R : Room} {s : State} {m : MethodId} {args : Array Value} {below : List Frame} {meth : Method} {c : Code} {T : State} {H : Heap} {locs : List Loc} {cells slots : Nat}
theorem vx_callVX (X : Stand p l e R s m args below meth c T locs cells slots) (hexec : p.tables.exec = Jvm.exec) {own C : String} {index : Nat} {y : MethodName} {bytes : ByteArray} {maxL : Nat} {ret : Option FieldType} {hh : List (Nat × Nat × Nat × Nat)}
    (hown : s.vm.findClass own = some m.cls) (hlink : (Cond.methodLink own index y).before args s = true) (hinst : (Cond.instanceMethod y).before args s = true) (hsel : (Cond.selects C y y).before args s = true)
    (hcode : (Cond.codeWith y bytes maxL ret hh).before args s = true) (hy : y.cls ≠ "java/lang/invoke/MethodHandle" ∧ y.cls ≠ "java/lang/invoke/VarHandle")
    {W9 : Nat} {Pre : Pt → Array Value → Prop} {Post : Pt → Array Value → Option Value → Pt → Prop} {PostX : Pt → Array Value → Addr → Pt → Prop} (hK : vx_Back l R p e below s args y 3 W9 Pre Post PostX)
    {b : Addr} {cellB : Cell} (hcell : T.heap[b]? = some cellB) (hobj : cellB.vm.isStatics = false) (hcls : s.vm.findClass C = some cellB.cls)
    {g : JFrame} (hg : g.method = m) (hsize : g.locals.size = c.maxLocals) {argsL rest : List Value} (hlen : ∀ sig, parseMethodDescriptor y.desc = some sig → argsL.length = sig.parameters.length)
    (hstack : g.stack = argsL.reverse ++ .ref b :: rest) (hW : 2 * g.monitorRoom + (rest.map fun v => v.category).sum ≤ W9) (hdg : decode c.code g.pc = .ok (.invokevirtual index, 3))
    (hpre : ∀ vm₁, s.WarmedH vm₁ → Pre ⟨T.setVm vm₁, locs, cells, slots⟩ (Value.ref b :: argsL).toArray) :
    (∃ (v : Option Value) (vm₁ : Vm) (B : Pt), s.WarmedH vm₁ ∧ Stand p l e R s m args below meth c B.U B.locs B.cells B.slots ∧ Post ⟨T.setVm vm₁, locs, cells, slots⟩ (Value.ref b :: argsL).toArray v B ∧
      ∀ target, Steps p.tables e below (B.U.setTop { g with pc := g.pc + 3, stack := v.toList ++ rest }) target → Steps p.tables e below (T.setTop g) target) ∨
    (∃ (q : Addr) (vm₁ : Vm) (B : Pt), s.WarmedH vm₁ ∧ Stand p l e R s m args below meth c B.U B.locs B.cells B.slots ∧ PostX ⟨T.setVm vm₁, locs, cells, slots⟩ (Value.ref b :: argsL).toArray q B ∧
      Steps p.tables e below (T.setTop g) ((B.U.setTop { g with stack := rest }).pushFrame (.throwing q))) := by
  obtain ⟨mk, methM, hnamed, hmethM, hstM, habM⟩ := Cond.instanceMethod_spec hinst
  obtain ⟨m8, methM', cM, hn8, hmethM', -, -, -, -, -, -, hsigM⟩ := Cond.codeWith_spec hcode
  cases Option.some.inj (hn8.symm.trans hnamed)
  cases hmethM.symm.trans hmethM'
  obtain ⟨c2, r2, m2, q1, q2, q3, q4, kP, hkP, hkPi⟩ := Cond.selects_spec hsel
  cases hcls.symm.trans q1
  cases (State.methodFound?_of_named hnamed hy).symm.trans q2
  cases hnamed.symm.trans q3
  have hselP : selectMethod e.platform s.vm cellB.cls mk = .method mk := by rw [Launch.admits_selectMethod X.admits]; exact q4
  obtain ⟨vm₁, X₁, hstep₁⟩ := X.invokevirtual hexec hown hlink hnamed hmethM hstM hkP hkPi hy (a := b) (cell := cellB) hcell
    (fun z h => by rw [h] at hobj; cases hobj) hselP hmethM habM hkP hkPi (g := g) hg (argsL := argsL) (rest := rest) (hlen _ hsigM) hstack hdg
  rcases hK m meth c ⟨T.setVm vm₁, locs, cells, slots⟩ { g with stack := rest } (.invokevirtual index) mk (Value.ref b :: argsL).toArray X₁ hg hsize hdg hW (X₁.named hnamed) (hpre vm₁ X₁.warmed) with ⟨v, B, X', hpost, hsteps⟩ | ⟨q, B, X', hpost, hsteps⟩
  · exact Or.inl ⟨v, vm₁, B, X₁.warmed, X', hpost, fun target h => hstep₁ _ fun acts => by rw [doInvoke_state]; exact hsteps.trans h⟩
  · exact Or.inr ⟨q, vm₁, B, X₁.warmed, X', hpost, hstep₁ _ fun acts => by rw [doInvoke_state]; exact hsteps⟩
theorem vx_callSX (X : Stand p l e R s m args below meth c T locs cells slots) (hexec : p.tables.exec = Jvm.exec) {own : String} {index : Nat} {y : MethodName} {bytes : ByteArray} {maxL : Nat} {ret : Option FieldType} {hh : List (Nat × Nat × Nat × Nat)}
    (hown : s.vm.findClass own = some m.cls) (hlink : (Cond.methodLink own index y).before args s = true) (hstat : (Cond.static y).before args s = true) (hinit : (Cond.initialized y.cls).before args s = true)
    (hcode : (Cond.codeWith y bytes maxL ret hh).before args s = true) (hy : y.cls ≠ "java/lang/invoke/MethodHandle" ∧ y.cls ≠ "java/lang/invoke/VarHandle")
    {W9 : Nat} {Pre : Pt → Array Value → Prop} {Post : Pt → Array Value → Option Value → Pt → Prop} {PostX : Pt → Array Value → Addr → Pt → Prop} (hK : vx_Back l R p e below s args y 3 W9 Pre Post PostX)
    {g : JFrame} (hg : g.method = m) (hsize : g.locals.size = c.maxLocals) {argsL rest : List Value} (hlen : ∀ sig, parseMethodDescriptor y.desc = some sig → argsL.length = sig.parameters.length)
    (hstack : g.stack = argsL.reverse ++ rest) (hW : 2 * g.monitorRoom + (rest.map fun v => v.category).sum ≤ W9) (hdg : decode c.code g.pc = .ok (.invokestatic index, 3))
    (hpre : ∀ vm₁, s.WarmedH vm₁ → Pre ⟨T.setVm vm₁, locs, cells, slots⟩ argsL.toArray) :
    (∃ (v : Option Value) (vm₁ : Vm) (B : Pt), s.WarmedH vm₁ ∧ Stand p l e R s m args below meth c B.U B.locs B.cells B.slots ∧ Post ⟨T.setVm vm₁, locs, cells, slots⟩ argsL.toArray v B ∧
      ∀ target, Steps p.tables e below (B.U.setTop { g with pc := g.pc + 3, stack := v.toList ++ rest }) target → Steps p.tables e below (T.setTop g) target) ∨
    (∃ (q : Addr) (vm₁ : Vm) (B : Pt), s.WarmedH vm₁ ∧ Stand p l e R s m args below meth c B.U B.locs B.cells B.slots ∧ PostX ⟨T.setVm vm₁, locs, cells, slots⟩ argsL.toArray q B ∧
      Steps p.tables e below (T.setTop g) ((B.U.setTop { g with stack := rest }).pushFrame (.throwing q))) := by
  obtain ⟨mk, methM, cM, hnamed, hmethM, -, -, -, -, -, -, hsigM⟩ := Cond.codeWith_spec hcode
  have hstatic : methM.isStatic = true := Cond.static_spec hnamed hmethM hstat
  obtain ⟨kP, hkP, -⟩ := className_of_methodNamed hnamed
  have hinitP : kP.init = .initialized := Cond.initialized_spec (findClass_of_methodNamed hnamed) hkP hinit
  obtain ⟨vm₁, X₁, hstep₁⟩ := X.invokestatic hexec hown hlink hnamed hmethM hstatic hkP hinitP hy (g := g) hg (argsL := argsL) (rest := rest) (hlen _ hsigM) hstack hdg
  rcases hK m meth c ⟨T.setVm vm₁, locs, cells, slots⟩ { g with stack := rest } (.invokestatic index) mk argsL.toArray X₁ hg hsize hdg hW (X₁.named hnamed) (hpre vm₁ X₁.warmed) with ⟨v, B, X', hpost, hsteps⟩ | ⟨q, B, X', hpost, hsteps⟩
  · exact Or.inl ⟨v, vm₁, B, X₁.warmed, X', hpost, fun target h => hstep₁ _ fun acts => by rw [doInvoke_state]; exact hsteps.trans h⟩
  · exact Or.inr ⟨q, vm₁, B, X₁.warmed, X', hpost, hstep₁ _ fun acts => by rw [doInvoke_state]; exact hsteps⟩
theorem vx_callVW (X : Stand p l e R s m args below meth c T locs cells slots) (hexec : p.tables.exec = Jvm.exec) {own C : String} {index : Nat} {y : MethodName} {bytes : ByteArray} {maxL : Nat} {ret : Option FieldType} {hh : List (Nat × Nat × Nat × Nat)}
    (hown : s.vm.findClass own = some m.cls) (hlink : (Cond.methodLink own index y).before args s = true) (hinst : (Cond.instanceMethod y).before args s = true) (hsel : (Cond.selects C y y).before args s = true)
    (hcode : (Cond.codeWith y bytes maxL ret hh).before args s = true) (hy : y.cls ≠ "java/lang/invoke/MethodHandle" ∧ y.cls ≠ "java/lang/invoke/VarHandle")
    {W9 : Nat} {Pre : Pt → Array Value → Prop} {Post : Pt → Array Value → Option Value → Pt → Prop} (hK : Back l R p e below s args y 3 W9 Pre Post)
    {b : Addr} {cellB : Cell} (hcell : T.heap[b]? = some cellB) (hobj : cellB.vm.isStatics = false) (hcls : s.vm.findClass C = some cellB.cls)
    {g : JFrame} (hg : g.method = m) (hsize : g.locals.size = c.maxLocals) {argsL rest : List Value} (hlen : ∀ sig, parseMethodDescriptor y.desc = some sig → argsL.length = sig.parameters.length)
    (hstack : g.stack = argsL.reverse ++ .ref b :: rest) (hW : 2 * g.monitorRoom + (rest.map fun v => v.category).sum ≤ W9) (hdg : decode c.code g.pc = .ok (.invokevirtual index, 3))
    (hpre : ∀ vm₁, s.WarmedH vm₁ → Pre ⟨T.setVm vm₁, locs, cells, slots⟩ (Value.ref b :: argsL).toArray) :
    ∃ (v : Option Value) (vm₁ : Vm) (B : Pt), s.WarmedH vm₁ ∧ Stand p l e R s m args below meth c B.U B.locs B.cells B.slots ∧ Post ⟨T.setVm vm₁, locs, cells, slots⟩ (Value.ref b :: argsL).toArray v B ∧
      ∀ target, Steps p.tables e below (B.U.setTop { g with pc := g.pc + 3, stack := v.toList ++ rest }) target → Steps p.tables e below (T.setTop g) target := by
  obtain ⟨mk, methM, hnamed, hmethM, hstM, habM⟩ := Cond.instanceMethod_spec hinst
  obtain ⟨m8, methM', cM, hn8, hmethM', -, -, -, -, -, -, hsigM⟩ := Cond.codeWith_spec hcode
  cases Option.some.inj (hn8.symm.trans hnamed)
  cases hmethM.symm.trans hmethM'
  obtain ⟨c2, r2, m2, q1, q2, q3, q4, kP, hkP, hkPi⟩ := Cond.selects_spec hsel
  cases hcls.symm.trans q1
  cases (State.methodFound?_of_named hnamed hy).symm.trans q2
  cases hnamed.symm.trans q3
  have hselP : selectMethod e.platform s.vm cellB.cls mk = .method mk := by rw [Launch.admits_selectMethod X.admits]; exact q4
  obtain ⟨vm₁, X₁, hstep₁⟩ := X.invokevirtual hexec hown hlink hnamed hmethM hstM hkP hkPi hy (a := b) (cell := cellB) hcell
    (fun z h => by rw [h] at hobj; cases hobj) hselP hmethM habM hkP hkPi (g := g) hg (argsL := argsL) (rest := rest) (hlen _ hsigM) hstack hdg
  obtain ⟨v, B, X', hpost, hsteps⟩ := hK m meth c ⟨T.setVm vm₁, locs, cells, slots⟩ { g with stack := rest } (.invokevirtual index) mk (Value.ref b :: argsL).toArray X₁ hg hsize hdg hW (X₁.named hnamed) (hpre vm₁ X₁.warmed)
  exact ⟨v, vm₁, B, X₁.warmed, X', hpost, fun target h => hstep₁ _ fun acts => by rw [doInvoke_state]; exact hsteps.trans h⟩
abbrev vx_CVW (R : Room) (s : State) (args : Array Value) (own C : String) (index : Nat) (y : MethodName) (bytes : ByteArray) (maxL : Nat) (ret : Option FieldType) (hh : List (Nat × Nat × Nat × Nat)) (ws : List Cond) (rm : Room) (mc ms n : Nat) : Prop :=
  (rm.cells = mc ∧ rm.slots = ms ∧ rm.frames + 1 ≤ R.frames ∧ 8 + (maxL + 11) + rm.locals ≤ R.locals ∧ (∀ w ∈ ws, ∀ (a' : Array Value) (U : State), s.WarmedH U.vm → w.before a' U = true) ∧ Cond.codeWith y bytes maxL ret hh ∈ ws) ∧
  (Cond.codeWith y bytes maxL ret hh).before args s = true ∧ (Cond.initialized y.cls).before args s = true ∧ (y.cls ≠ "java/lang/invoke/MethodHandle" ∧ y.cls ≠ "java/lang/invoke/VarHandle") ∧
  (∀ sig, parseMethodDescriptor y.desc = some sig → n = sig.parameters.length) ∧ (Cond.methodLink own index y).before args s = true ∧ (Cond.instanceMethod y).before args s = true ∧ (Cond.selects C y y).before args s = true
theorem vx_cwVW {own C : String} {index maxL mc ms : Nat} {y : MethodName} {bytes : ByteArray} {ret : Option FieldType} {hh : List (Nat × Nat × Nat × Nat)} {Ts ws ws' : List Cond} {rm : Room} (n : Nat) (ht : ∀ w ∈ Ts, w.before args s = true) (hT : GoodIn Ts (wsV own index C y ws)) (hw : ws = Cond.codeWith y bytes maxL ret hh :: ws') (hrc : rm.cells = mc) (hrs : rm.slots = ms)
    (hd : y.cls = C ∧ y.cls ≠ "java/lang/invoke/MethodHandle" ∧ y.cls ≠ "java/lang/invoke/VarHandle" ∧ (parseMethodDescriptor y.desc).map (fun d => d.parameters.length) = some n) (hR : rm.frames + 1 ≤ R.frames ∧ 8 + (maxL + 11) + rm.locals ≤ R.locals) :
    vx_CVW R s args own C index y bytes maxL ret hh ws rm mc ms n := by
  obtain ⟨hC, hd⟩ := hd
  subst hC
  have ok : ∀ w ∈ wsV own index y.cls y ws, w.before args s = true := fun w h => ht w (hT w h).1
  have hG : GoodIn Ts ws := fun w h => hT w (by unfold wsV; exact List.mem_append_right _ h)
  have hc : Cond.codeWith y bytes maxL ret hh ∈ ws := by rw [hw]; exact List.mem_cons_self
  refine ⟨⟨hrc, hrs, hR.1, hR.2, pay_in ht hG, hc⟩, ht _ (hG _ hc).1, ok _ (by simp [wsV]), ⟨hd.1, hd.2.1⟩, fun sig h => ?_, ok _ (by simp [wsV]), ok _ (by simp [wsV]), ok _ (by simp [wsV])⟩
  have h2 := hd.2.2
  rw [h] at h2
  exact (Option.some.inj h2).symm
theorem vx_runVW {y : MethodName} {bytes cc : ByteArray} {maxL nL mc ms n index : Nat} {ret : Option FieldType} {hh : List (Nat × Nat × Nat × Nat)} {ws : List Cond} {rm : Room} {Pc : Array Value → State → Prop} {Qc : Array Value → State → Outcome → State → Prop} {free : Addr → Prop} {Ts : List Cond} {own C : String} {b : Addr} {As rest : List Value} {g : JFrame}
    (S : CallFix p m c cc nL s args Ts own) (hM : Met l y ws rm Pc Qc mc ms free) (cw : vx_CVW R s args own C index y bytes maxL ret hh ws rm mc ms n) (hp : PreV s H C b Pc As)
    (hg : g.method = m) (hn : As.length = n) (hsize : g.locals.size = nL) (hstack : g.stack = As.reverse ++ .ref b :: rest) (hW : 2 * g.monitorRoom + (rest.map fun v => v.category).sum ≤ 8) (hdg : decode cc g.pc = .ok (.invokevirtual index, 3)) (hf : cells + mc ≤ R.cells ∧ slots + ms ≤ R.slots) :
    va_Run p l e R s m args below meth c H locs cells slots mc ms g rest (Qc (Value.ref b :: As).toArray) free := by
  obtain ⟨⟨hrc, hrs, hfr, hlo, hws, hcw⟩, hcode, hini, hy, hlen, hl, hin, hse⟩ := cw
  have hK : Back l R p e below s args y 3 8 (PreOf R mc ms Pc) (PostOf Qc mc ms free) := va_backW (hh := hh) (bytes := bytes) (maxL := maxL) (ret := ret) hM hp.1 hrc hrs hfr hlo hws hcw (fun a' U hW => word_at hW (Or.inl (by first | rfl | simp [Cond.onTables, Cond.keeps, Cond.steady])) hini)
  obtain ⟨hx, hb, hml, ho, -⟩ := S
  obtain ⟨-, ⟨cellB, hcB, hoB, hclB⟩, hPc⟩ := hp
  intro T hT X
  obtain ⟨v, vm₁, ⟨U', l2, c2, s2⟩, hW₁, X', ⟨g', mk, t, L, e1, e2, hq, h1, hL, h2, h3⟩, st⟩ := vx_callVW X hx (C := C) (hh := hh) (bytes := bytes) (maxL := maxL) (ret := ret) ho hl hin hse hcode hy hK (by rw [hT]; exact hcB) hoB hclB hg (hsize.trans hml.symm) (argsL := As) (rest := rest) (fun sig h => hn.trans (hlen sig h)) hstack hW (by rw [hb]; exact hdg)
    (fun vm₁ hW₁ => ⟨hf.1, hf.2, hPc (T.setVm vm₁) hT hW₁⟩)
  dsimp only [Pt.U, Pt.locs, Pt.cells, Pt.slots] at X' e1 e2 h1 h2 h3 st
  subst h1; subst h2; subst h3
  exact ⟨v, (T.setVm vm₁).calling g' mk (Value.ref b :: As).toArray, t, U', L, hT, X', hL, e1, e2, hq, st⟩
section
variable {y : MethodName} {bytes cc : ByteArray} {maxL nL mc ms n index : Nat} {ret : Option FieldType} {ws : List Cond} {rm : Room} {Pc : Array Value → State → Prop} {Qc : Array Value → State → Outcome → State → Prop} {XC : String → State → State → Prop} {free : Addr → Prop} {Ts : List Cond} {own C : String} {b : Addr} {As rest : List Value} {g : JFrame}
theorem vx_runVX {hh : List (Nat × Nat × Nat × Nat)} (S : CallFix p m c cc nL s args Ts own) (hM : vx_Met l y ws rm Pc Qc XC mc ms free) (cw : vx_CVW R s args own C index y bytes maxL ret hh ws rm mc ms n) (hp : PreV s H C b Pc As)
    (hg : g.method = m) (hn : As.length = n) (hsize : g.locals.size = nL) (hstack : g.stack = As.reverse ++ .ref b :: rest) (hW : 2 * g.monitorRoom + (rest.map fun v => v.category).sum ≤ 8) (hdg : decode cc g.pc = .ok (.invokevirtual index, 3)) (hf : cells + mc ≤ R.cells ∧ slots + ms ≤ R.slots) :
    vx_Run p l e R s m args below meth c H locs cells slots mc ms g rest (Qc (Value.ref b :: As).toArray) XC free := by
  obtain ⟨⟨hrc, hrs, hfr, hlo, hws, hcw⟩, hcode, hini, hy, hlen, hl, hin, hse⟩ := cw
  have hK : vx_Back l R p e below s args y 3 8 (PreOf R mc ms Pc) (PostOf Qc mc ms free) (vx_Post XC mc ms free) := vx_backW (hh := hh) (bytes := bytes) (maxL := maxL) (ret := ret) hM hp.1 hrc hrs hfr hlo hws hcw (fun a' U hW => word_at hW (Or.inl (by first | rfl | simp [Cond.onTables, Cond.keeps, Cond.steady])) hini)
  obtain ⟨hx, hb, hml, ho, -⟩ := S
  obtain ⟨-, ⟨cellB, hcB, hoB, hclB⟩, hPc⟩ := hp
  intro T hT X
  rcases vx_callVX X hx (C := C) (hh := hh) (bytes := bytes) (maxL := maxL) (ret := ret) ho hl hin hse hcode hy hK (by rw [hT]; exact hcB) hoB hclB hg (hsize.trans hml.symm) (argsL := As) (rest := rest) (fun sig h => hn.trans (hlen sig h)) hstack hW (by rw [hb]; exact hdg)
    (fun vm₁ hW₁ => ⟨hf.1, hf.2, hPc (T.setVm vm₁) hT hW₁⟩) with ⟨v, vm₁, ⟨U', l2, c2, s2⟩, hW₁, X', ⟨g', mk, t, L, e1, e2, hq, h1, hL, h2, h3⟩, st⟩ | ⟨q, vm₁, ⟨U', l2, c2, s2⟩, hW₁, X', ⟨g', mk, t, L, E, ce, e1, e2, hq, hce, hcv, hcl, h1, hL, h2, h3⟩, st⟩
  · dsimp only [Pt.U, Pt.locs, Pt.cells, Pt.slots] at X' e1 e2 h1 h2 h3 st
    subst h1; subst h2; subst h3
    exact Or.inl ⟨v, (T.setVm vm₁).calling g' mk (Value.ref b :: As).toArray, t, U', L, hT, X', hL, e1, e2, hq, st⟩
  · dsimp only [Pt.U, Pt.locs, Pt.cells, Pt.slots] at X' e1 e2 h1 h2 h3 st hcl
    subst h1; subst h2; subst h3
    exact Or.inr ⟨q, (T.setVm vm₁).calling g' mk (Value.ref b :: As).toArray, t, U', L, E, ce, hT, X', hL, e1, e2, hq, hce, hcv, vx_cls hW₁ hcl, st⟩
theorem vx_runSX {hh : List (Nat × Nat × Nat × Nat)} (S : CallFix p m c cc nL s args Ts own) (hM : vx_Met l y ws rm Pc Qc XC mc ms free) (cw : vx_CSW R s args own index y bytes maxL ret hh ws rm mc ms n) (hp : PreS s H Pc As)
    (hg : g.method = m) (hn : As.length = n) (hsize : g.locals.size = nL) (hstack : g.stack = As.reverse ++ rest) (hW : 2 * g.monitorRoom + (rest.map fun v => v.category).sum ≤ 8) (hdg : decode cc g.pc = .ok (.invokestatic index, 3)) (hf : cells + mc ≤ R.cells ∧ slots + ms ≤ R.slots) :
    vx_Run p l e R s m args below meth c H locs cells slots mc ms g rest (Qc As.toArray) XC free := by
  obtain ⟨⟨hrc, hrs, hfr, hlo, hws, hcw⟩, hcode, hini, hy, hlen, hl, hstt⟩ := cw
  have hK : vx_Back l R p e below s args y 3 8 (PreOf R mc ms Pc) (PostOf Qc mc ms free) (vx_Post XC mc ms free) := vx_backW (hh := hh) (bytes := bytes) (maxL := maxL) (ret := ret) hM hp.1 hrc hrs hfr hlo hws hcw (fun a' U hW => word_at hW (Or.inl (by first | rfl | simp [Cond.onTables, Cond.keeps, Cond.steady])) hini)
  obtain ⟨hx, hb, hml, ho, -⟩ := S
  intro T hT X
  rcases vx_callSX X hx (hh := hh) (bytes := bytes) (maxL := maxL) (ret := ret) ho hl hstt hini hcode hy hK hg (hsize.trans hml.symm) (argsL := As) (rest := rest) (fun sig h => hn.trans (hlen sig h)) hstack hW (by rw [hb]; exact hdg)
    (fun vm₁ hW₁ => ⟨hf.1, hf.2, hp.2 (T.setVm vm₁) hT hW₁⟩) with ⟨v, vm₁, ⟨U', l2, c2, s2⟩, hW₁, X', ⟨g', mk, t, L, e1, e2, hq, h1, hL, h2, h3⟩, st⟩ | ⟨q, vm₁, ⟨U', l2, c2, s2⟩, hW₁, X', ⟨g', mk, t, L, E, ce, e1, e2, hq, hce, hcv, hcl, h1, hL, h2, h3⟩, st⟩
  · dsimp only [Pt.U, Pt.locs, Pt.cells, Pt.slots] at X' e1 e2 h1 h2 h3 st
    subst h1; subst h2; subst h3
    exact Or.inl ⟨v, (T.setVm vm₁).calling g' mk As.toArray, t, U', L, hT, X', hL, e1, e2, hq, st⟩
  · dsimp only [Pt.U, Pt.locs, Pt.cells, Pt.slots] at X' e1 e2 h1 h2 h3 st hcl
    subst h1; subst h2; subst h3
    exact Or.inr ⟨q, (T.setVm vm₁).calling g' mk As.toArray, t, U', L, E, ce, hT, X', hL, e1, e2, hq, hce, hcv, vx_cls hW₁ hcl, st⟩
end
end VXH
theorem vx_ofWH {l : Launch} {y : MethodName} {ws ws' : List Cond} {rm : Room} {Pc : Array Value → State → Prop} {Qc : Array Value → State → Outcome → State → Prop} {XC : String → State → State → Prop} {mc ms : Nat} {free : Addr → Prop} {cc : ByteArray} {maxL : Nat} {ret : Option FieldType} {hh : List (Nat × Nat × Nat × Nat)}
    (hy : plainName y.cls = true) (hw : ws = Cond.codeWith y cc maxL ret hh :: ws')
    (body : ∀ p e s m args below meth c s₁, BodyLoose p l y (headSpec ws rm) cc maxL ret e s m args below meth c s₁ → c.maxLocals = maxL → Pc args s →
      W p l e (headSpec ws rm).room s m args below meth c s.heap [] 0 0 (vx_MQ below Qc XC args s mc ms free) (entryFrame m args maxL)) : vx_Met l y ws rm Pc Qc XC mc ms free := by
  refine MetFree.of_bodyS (code := cc) (maxLocals := maxL) (ret := ret) hy ?_ ?_
  · intro args s m h hn
    obtain ⟨m9, meth, c, hn9, h1, h2, h3, h4, -, h5, h6, -⟩ := Cond.codeWith_spec (atoms_spec (ws := ws) h _ (by rw [hw]; exact List.mem_cons_self))
    cases hn.symm.trans hn9
    exact ⟨meth, c, h1, h2, h3, h4, h5, h6⟩
  · intro p e s m args below meth c s₁ B hml hP _
    have hh0 : s₁.heap = s.heap := by rw [B.state]; rfl
    obtain ⟨t, a1, o, b1, b2, b3⟩ := body p e s m args below meth c s₁ B hml hP s₁ hh0 (Stand.of_body B)
    exact ⟨t, o, a1, b1, b2, b3⟩
/-! ===== END ===== -/
end
section
/-! names: classes, their fields in the order of the slots, methods -/
def RD : String := "PieceBench$Datagram"
def TD : u_T := fun k => match k with
  | 0 => ("PieceBench$Datagram", "bytes", "[I", true)
  | 1 => ("PieceBench$Datagram", "source", "I", false)
  | 2 => ("PieceBench$Datagram", "goal", "I", false)
  | 3 => ("PieceBench$Datagram", "number", "I", false)
  | 4 => ("PieceBench$Datagram", "size", "I", false)
  | 5 => ("PieceBench$Datagram", "lacking", "I", false)
  | _ => ("PieceBench$Datagram", "since", "I", false)
def tyD : Nat → FieldType := fun k => match k with
  | 0 => .array .int
  | 1 => .int
  | 2 => .int
  | 3 => .int
  | 4 => .int
  | 5 => .int
  | _ => .int
def RP : String := "PieceBench"
def TP : u_T := fun k => match k with
  | 0 => ("PieceBench", "fed", "[I", true)
  | 1 => ("PieceBench", "fedCount", "I", false)
  | 2 => ("PieceBench", "bench", "[LPieceBench$Datagram;", true)
  | 3 => ("PieceBench", "benchCount", "I", false)
  | 4 => ("PieceBench", "lastWhole", "LPieceBench$Datagram;", false)
  | 5 => ("PieceBench", "anyWhole", "Z", false)
  | _ => ("PieceBench", "time", "I", false)
def tyP : Nat → FieldType := fun k => match k with
  | 0 => .array .int
  | 1 => .int
  | 2 => .array (.object "PieceBench$Datagram")
  | 3 => .int
  | 4 => .object "PieceBench$Datagram"
  | 5 => .boolean
  | _ => .int
def RM : String := "PieceBenchModel"
def TM : u_T := fun k => match k with
  | 0 => ("PieceBenchModel", "code", "I", false)
  | 1 => ("PieceBenchModel", "time", "I", false)
  | 2 => ("PieceBenchModel", "fedCount", "I", false)
  | 3 => ("PieceBenchModel", "fed", "[I", true)
  | 4 => ("PieceBenchModel", "count", "I", false)
  | 5 => ("PieceBenchModel", "source", "[I", true)
  | 6 => ("PieceBenchModel", "goal", "[I", true)
  | 7 => ("PieceBenchModel", "number", "[I", true)
  | 8 => ("PieceBenchModel", "since", "[I", true)
  | 9 => ("PieceBenchModel", "whole", "[I", true)
  | 10 => ("PieceBenchModel", "place", "[I", true)
  | 11 => ("PieceBenchModel", "some", "Z", false)
  | 12 => ("PieceBenchModel", "madeSource", "I", false)
  | 13 => ("PieceBenchModel", "madeGoal", "I", false)
  | 14 => ("PieceBenchModel", "madeNumber", "I", false)
  | 15 => ("PieceBenchModel", "madeCount", "I", false)
  | _ => ("PieceBenchModel", "made", "[I", true)
def tyM : Nat → FieldType := fun k => match k with
  | 0 => .int
  | 1 => .int
  | 2 => .int
  | 3 => .array .int
  | 4 => .int
  | 5 => .array .int
  | 6 => .array .int
  | 7 => .array .int
  | 8 => .array .int
  | 9 => .array .int
  | 10 => .array .int
  | 11 => .boolean
  | 12 => .int
  | 13 => .int
  | 14 => .int
  | 15 => .int
  | _ => .array .int
def RL : String := "PieceBenchLaw"
abbrev cX1_init : ByteArray := prog_1_method_1_code
def yX1_init : MethodName := ⟨RP, "<init>", "()V"⟩
abbrev cX0_init : ByteArray := prog_2_method_1_code
def yX0_init : MethodName := ⟨RD, "<init>", "()V"⟩
abbrev cX1_missing : ByteArray := prog_1_method_7_code
def yX1_missing : MethodName := ⟨RP, "missing", "(III)I"⟩
abbrev cX1_placeOf : ByteArray := prog_1_method_10_code
def yX1_placeOf : MethodName := ⟨RP, "placeOf", "(III)I"⟩
abbrev cX0_isTold : ByteArray := prog_2_method_3_code
def yX0_isTold : MethodName := ⟨RD, "isTold", "(III)Z"⟩
abbrev cX1_has : ByteArray := prog_1_method_8_code
def yX1_has : MethodName := ⟨RP, "has", "(IIII)Z"⟩
abbrev cX0_holds : ByteArray := prog_2_method_5_code
def yX0_holds : MethodName := ⟨RD, "holds", "(I)Z"⟩
abbrev cX1_waiting : ByteArray := prog_1_method_9_code
def yX1_waiting : MethodName := ⟨RP, "waiting", "()I"⟩
abbrev cL_feed : ByteArray := method_3_code
def yL_feed : MethodName := ⟨RL, "feed", "(LPieceBench;JI[J)I"⟩
abbrev cX1_feed : ByteArray := prog_1_method_2_code
def yX1_feed : MethodName := ⟨RP, "feed", "(JI)I"⟩
abbrev cL_piece : ByteArray := method_4_code
def yL_piece : MethodName := ⟨RL, "piece", "(LPieceBench;IIIII[J)I"⟩
abbrev cX1_piece : ByteArray := prog_1_method_3_code
def yX1_piece : MethodName := ⟨RP, "piece", "(IIIII)I"⟩
abbrev cX1_beginOnBench : ByteArray := prog_1_method_11_code
def yX1_beginOnBench : MethodName := ⟨RP, "beginOnBench", "(IIII)I"⟩
abbrev cX1_forget : ByteArray := prog_1_method_12_code
def yX1_forget : MethodName := ⟨RP, "forget", "(I)V"⟩
abbrev cX0_begin : ByteArray := prog_2_method_2_code
def yX0_begin : MethodName := ⟨RD, "begin", "(IIIII)V"⟩
abbrev cX0_take : ByteArray := prog_2_method_4_code
def yX0_take : MethodName := ⟨RD, "take", "([III)V"⟩
abbrev cX1_finish : ByteArray := prog_1_method_13_code
def yX1_finish : MethodName := ⟨RP, "finish", "(I)V"⟩
abbrev cL_pass : ByteArray := method_5_code
def yL_pass : MethodName := ⟨RL, "pass", "(LPieceBench;I[J)I"⟩
abbrev cX1_pass : ByteArray := prog_1_method_4_code
def yX1_pass : MethodName := ⟨RP, "pass", "(I)I"⟩
abbrev cX1_giveUpOverdue : ByteArray := prog_1_method_14_code
def yX1_giveUpOverdue : MethodName := ⟨RP, "giveUpOverdue", "()I"⟩
abbrev cL_about : ByteArray := method_6_code
def yL_about : MethodName := ⟨RL, "about", "(LPieceBench;I[J)I"⟩
abbrev cX1_about : ByteArray := prog_1_method_5_code
def yX1_about : MethodName := ⟨RP, "about", "(I)I"⟩
abbrev cL_byteAt : ByteArray := method_7_code
def yL_byteAt : MethodName := ⟨RL, "byteAt", "(LPieceBench;I[J)I"⟩
abbrev cX1_byteAt : ByteArray := prog_1_method_6_code
def yX1_byteAt : MethodName := ⟨RP, "byteAt", "(I)I"⟩
abbrev cM_init : ByteArray := prog_4_method_1_code
def yM_init : MethodName := ⟨RM, "<init>", "()V"⟩
abbrev cM_thrown : ByteArray := prog_4_method_2_code
def yM_thrown : MethodName := ⟨RM, "thrown", "()I"⟩
abbrev cM_feed : ByteArray := prog_4_method_3_code
def yM_feed : MethodName := ⟨RM, "feed", "(JI)I"⟩
abbrev cM_piece : ByteArray := prog_4_method_9_code
def yM_piece : MethodName := ⟨RM, "piece", "(IIIII)I"⟩
abbrev cM_find : ByteArray := prog_4_method_4_code
def yM_find : MethodName := ⟨RM, "find", "(III)I"⟩
abbrev cM_begin : ByteArray := prog_4_method_7_code
def yM_begin : MethodName := ⟨RM, "begin", "(IIII)V"⟩
abbrev cM_forget : ByteArray := prog_4_method_5_code
def yM_forget : MethodName := ⟨RM, "forget", "(I)V"⟩
abbrev cM_lacks : ByteArray := prog_4_method_6_code
def yM_lacks : MethodName := ⟨RM, "lacks", "(I)I"⟩
abbrev cM_finish : ByteArray := prog_4_method_8_code
def yM_finish : MethodName := ⟨RM, "finish", "(I)V"⟩
abbrev cM_pass : ByteArray := prog_4_method_10_code
def yM_pass : MethodName := ⟨RM, "pass", "(I)I"⟩
abbrev cM_about : ByteArray := prog_4_method_11_code
def yM_about : MethodName := ⟨RM, "about", "(I)I"⟩
abbrev cM_byteAt : ByteArray := prog_4_method_12_code
def yM_byteAt : MethodName := ⟨RM, "byteAt", "(I)I"⟩
abbrev cM_missing : ByteArray := prog_4_method_13_code
def yM_missing : MethodName := ⟨RM, "missing", "(III)I"⟩
abbrev cM_has : ByteArray := prog_4_method_14_code
def yM_has : MethodName := ⟨RM, "has", "(IIII)Z"⟩
abbrev cM_waiting : ByteArray := prog_4_method_15_code
def yM_waiting : MethodName := ⟨RM, "waiting", "()I"⟩
abbrev cF : ByteArray := prog_12_method_103_code
def yF : MethodName := ⟨"java/util/Arrays", "fill", "([II)V"⟩
abbrev cL_law : ByteArray := code
abbrev cD : Nat := 0
abbrev cP : Nat := 1
abbrev cM : Nat := 2
abbrev cDr : vw_C := (RD, TD, 7)
abbrev vwCl : List vw_C := [(RD, TD, 7), (RP, TP, 7), (RM, TM, 17)]
def exIA : String := "java/lang/IllegalArgumentException"
def exIS : String := "java/lang/IllegalStateException"
def exIB : String := "java/lang/IndexOutOfBoundsException"
def exN : List String := ["java/lang/RuntimeException", "java/lang/Exception"]
end
section
/-! what each instruction is -/
theorem dX1_init_0 : decode cX1_init 0 = .ok (.aload_n 0, 1) := by decide +kernel
theorem dX1_init_1 : decode cX1_init 1 = .ok (.invokespecial 1, 3) := by decide +kernel
theorem dX1_init_4 : decode cX1_init 4 = .ok (.aload_n 0, 1) := by decide +kernel
theorem dX1_init_5 : decode cX1_init 5 = .ok (.sipush 1480, 3) := by decide +kernel
theorem dX1_init_8 : decode cX1_init 8 = .ok (.newarray .int, 2) := by decide +kernel
theorem dX1_init_10 : decode cX1_init 10 = .ok (.putfield 9, 3) := by decide +kernel
theorem dX1_init_13 : decode cX1_init 13 = .ok (.aload_n 0, 1) := by decide +kernel
theorem dX1_init_14 : decode cX1_init 14 = .ok (.iconst 4, 1) := by decide +kernel
theorem dX1_init_15 : decode cX1_init 15 = .ok (.anewarray 13, 3) := by decide +kernel
theorem dX1_init_18 : decode cX1_init 18 = .ok (.putfield 15, 3) := by decide +kernel
theorem dX1_init_21 : decode cX1_init 21 = .ok (.iconst 0, 1) := by decide +kernel
theorem dX1_init_22 : decode cX1_init 22 = .ok (.istore_n 1, 1) := by decide +kernel
theorem dX1_init_23 : decode cX1_init 23 = .ok (.iload_n 1, 1) := by decide +kernel
theorem dX1_init_24 : decode cX1_init 24 = .ok (.iconst 4, 1) := by decide +kernel
theorem dX1_init_25 : decode cX1_init 25 = .ok (.if_icmp .ge 22, 3) := by decide +kernel
theorem dX1_init_28 : decode cX1_init 28 = .ok (.aload_n 0, 1) := by decide +kernel
theorem dX1_init_29 : decode cX1_init 29 = .ok (.getfield 15, 3) := by decide +kernel
theorem dX1_init_32 : decode cX1_init 32 = .ok (.iload_n 1, 1) := by decide +kernel
theorem dX1_init_33 : decode cX1_init 33 = .ok (.new 13, 3) := by decide +kernel
theorem dX1_init_36 : decode cX1_init 36 = .ok (.dup, 1) := by decide +kernel
theorem dX1_init_37 : decode cX1_init 37 = .ok (.invokespecial 19, 3) := by decide +kernel
theorem dX1_init_40 : decode cX1_init 40 = .ok (.aastore, 1) := by decide +kernel
theorem dX1_init_41 : decode cX1_init 41 = .ok (.iinc 1 1, 3) := by decide +kernel
theorem dX1_init_44 : decode cX1_init 44 = .ok (.goto (-21), 3) := by decide +kernel
theorem dX1_init_47 : decode cX1_init 47 = .ok (.aload_n 0, 1) := by decide +kernel
theorem dX1_init_48 : decode cX1_init 48 = .ok (.new 13, 3) := by decide +kernel
theorem dX1_init_51 : decode cX1_init 51 = .ok (.dup, 1) := by decide +kernel
theorem dX1_init_52 : decode cX1_init 52 = .ok (.invokespecial 19, 3) := by decide +kernel
theorem dX1_init_55 : decode cX1_init 55 = .ok (.putfield 20, 3) := by decide +kernel
theorem dX1_init_58 : decode cX1_init 58 = .ok (.return_, 1) := by decide +kernel
theorem dX1_feed_0 : decode cX1_feed 0 = .ok (.iload_n 3, 1) := by decide +kernel
theorem dX1_feed_1 : decode cX1_feed 1 = .ok (.iconst 1, 1) := by decide +kernel
theorem dX1_feed_2 : decode cX1_feed 2 = .ok (.if_icmp .lt 9, 3) := by decide +kernel
theorem dX1_feed_5 : decode cX1_feed 5 = .ok (.iload_n 3, 1) := by decide +kernel
theorem dX1_feed_6 : decode cX1_feed 6 = .ok (.bipush 8, 2) := by decide +kernel
theorem dX1_feed_8 : decode cX1_feed 8 = .ok (.if_icmp .le 13, 3) := by decide +kernel
theorem dX1_feed_11 : decode cX1_feed 11 = .ok (.new 24, 3) := by decide +kernel
theorem dX1_feed_14 : decode cX1_feed 14 = .ok (.dup, 1) := by decide +kernel
theorem dX1_feed_15 : decode cX1_feed 15 = .ok (.ldc 26, 2) := by decide +kernel
theorem dX1_feed_17 : decode cX1_feed 17 = .ok (.invokespecial 28, 3) := by decide +kernel
theorem dX1_feed_20 : decode cX1_feed 20 = .ok (.athrow, 1) := by decide +kernel
theorem dX1_feed_21 : decode cX1_feed 21 = .ok (.iload_n 3, 1) := by decide +kernel
theorem dX1_feed_22 : decode cX1_feed 22 = .ok (.sipush 1480, 3) := by decide +kernel
theorem dX1_feed_25 : decode cX1_feed 25 = .ok (.aload_n 0, 1) := by decide +kernel
theorem dX1_feed_26 : decode cX1_feed 26 = .ok (.getfield 31, 3) := by decide +kernel
theorem dX1_feed_29 : decode cX1_feed 29 = .ok (.isub, 1) := by decide +kernel
theorem dX1_feed_30 : decode cX1_feed 30 = .ok (.if_icmp .le 13, 3) := by decide +kernel
theorem dX1_feed_33 : decode cX1_feed 33 = .ok (.new 35, 3) := by decide +kernel
theorem dX1_feed_36 : decode cX1_feed 36 = .ok (.dup, 1) := by decide +kernel
theorem dX1_feed_37 : decode cX1_feed 37 = .ok (.ldc 37, 2) := by decide +kernel
theorem dX1_feed_39 : decode cX1_feed 39 = .ok (.invokespecial 39, 3) := by decide +kernel
theorem dX1_feed_42 : decode cX1_feed 42 = .ok (.athrow, 1) := by decide +kernel
theorem dX1_feed_43 : decode cX1_feed 43 = .ok (.iconst 0, 1) := by decide +kernel
theorem dX1_feed_44 : decode cX1_feed 44 = .ok (.istore 4, 2) := by decide +kernel
theorem dX1_feed_46 : decode cX1_feed 46 = .ok (.iload 4, 2) := by decide +kernel
theorem dX1_feed_48 : decode cX1_feed 48 = .ok (.iload_n 3, 1) := by decide +kernel
theorem dX1_feed_49 : decode cX1_feed 49 = .ok (.if_icmp .ge 41, 3) := by decide +kernel
theorem dX1_feed_52 : decode cX1_feed 52 = .ok (.bipush 8, 2) := by decide +kernel
theorem dX1_feed_54 : decode cX1_feed 54 = .ok (.iload_n 3, 1) := by decide +kernel
theorem dX1_feed_55 : decode cX1_feed 55 = .ok (.iconst 1, 1) := by decide +kernel
theorem dX1_feed_56 : decode cX1_feed 56 = .ok (.isub, 1) := by decide +kernel
theorem dX1_feed_57 : decode cX1_feed 57 = .ok (.iload 4, 2) := by decide +kernel
theorem dX1_feed_59 : decode cX1_feed 59 = .ok (.isub, 1) := by decide +kernel
theorem dX1_feed_60 : decode cX1_feed 60 = .ok (.imul, 1) := by decide +kernel
theorem dX1_feed_61 : decode cX1_feed 61 = .ok (.istore 5, 2) := by decide +kernel
theorem dX1_feed_63 : decode cX1_feed 63 = .ok (.aload_n 0, 1) := by decide +kernel
theorem dX1_feed_64 : decode cX1_feed 64 = .ok (.getfield 9, 3) := by decide +kernel
theorem dX1_feed_67 : decode cX1_feed 67 = .ok (.aload_n 0, 1) := by decide +kernel
theorem dX1_feed_68 : decode cX1_feed 68 = .ok (.getfield 31, 3) := by decide +kernel
theorem dX1_feed_71 : decode cX1_feed 71 = .ok (.iload 4, 2) := by decide +kernel
theorem dX1_feed_73 : decode cX1_feed 73 = .ok (.iadd, 1) := by decide +kernel
theorem dX1_feed_74 : decode cX1_feed 74 = .ok (.lload_n 1, 1) := by decide +kernel
theorem dX1_feed_75 : decode cX1_feed 75 = .ok (.iload 5, 2) := by decide +kernel
theorem dX1_feed_77 : decode cX1_feed 77 = .ok (.lushr, 1) := by decide +kernel
theorem dX1_feed_78 : decode cX1_feed 78 = .ok (.l2i, 1) := by decide +kernel
theorem dX1_feed_79 : decode cX1_feed 79 = .ok (.sipush 255, 3) := by decide +kernel
theorem dX1_feed_82 : decode cX1_feed 82 = .ok (.iand, 1) := by decide +kernel
theorem dX1_feed_83 : decode cX1_feed 83 = .ok (.iastore, 1) := by decide +kernel
theorem dX1_feed_84 : decode cX1_feed 84 = .ok (.iinc 4 1, 3) := by decide +kernel
theorem dX1_feed_87 : decode cX1_feed 87 = .ok (.goto (-41), 3) := by decide +kernel
theorem dX1_feed_90 : decode cX1_feed 90 = .ok (.aload_n 0, 1) := by decide +kernel
theorem dX1_feed_91 : decode cX1_feed 91 = .ok (.dup, 1) := by decide +kernel
theorem dX1_feed_92 : decode cX1_feed 92 = .ok (.getfield 31, 3) := by decide +kernel
theorem dX1_feed_95 : decode cX1_feed 95 = .ok (.iload_n 3, 1) := by decide +kernel
theorem dX1_feed_96 : decode cX1_feed 96 = .ok (.iadd, 1) := by decide +kernel
theorem dX1_feed_97 : decode cX1_feed 97 = .ok (.putfield 31, 3) := by decide +kernel
theorem dX1_feed_100 : decode cX1_feed 100 = .ok (.aload_n 0, 1) := by decide +kernel
theorem dX1_feed_101 : decode cX1_feed 101 = .ok (.getfield 31, 3) := by decide +kernel
theorem dX1_feed_104 : decode cX1_feed 104 = .ok (.ireturn, 1) := by decide +kernel
theorem dX1_piece_0 : decode cX1_piece 0 = .ok (.iload 5, 2) := by decide +kernel
theorem dX1_piece_2 : decode cX1_piece 2 = .ok (.iconst 1, 1) := by decide +kernel
theorem dX1_piece_3 : decode cX1_piece 3 = .ok (.if_icmp .lt 16, 3) := by decide +kernel
theorem dX1_piece_6 : decode cX1_piece 6 = .ok (.iload 5, 2) := by decide +kernel
theorem dX1_piece_8 : decode cX1_piece 8 = .ok (.sipush 1480, 3) := by decide +kernel
theorem dX1_piece_11 : decode cX1_piece 11 = .ok (.if_icmp .gt 8, 3) := by decide +kernel
theorem dX1_piece_14 : decode cX1_piece 14 = .ok (.iload 4, 2) := by decide +kernel
theorem dX1_piece_16 : decode cX1_piece 16 = .ok (.ifCond .ge 13, 3) := by decide +kernel
theorem dX1_piece_19 : decode cX1_piece 19 = .ok (.new 24, 3) := by decide +kernel
theorem dX1_piece_22 : decode cX1_piece 22 = .ok (.dup, 1) := by decide +kernel
theorem dX1_piece_23 : decode cX1_piece 23 = .ok (.ldc 40, 2) := by decide +kernel
theorem dX1_piece_25 : decode cX1_piece 25 = .ok (.invokespecial 28, 3) := by decide +kernel
theorem dX1_piece_28 : decode cX1_piece 28 = .ok (.athrow, 1) := by decide +kernel
theorem dX1_piece_29 : decode cX1_piece 29 = .ok (.aload_n 0, 1) := by decide +kernel
theorem dX1_piece_30 : decode cX1_piece 30 = .ok (.getfield 31, 3) := by decide +kernel
theorem dX1_piece_33 : decode cX1_piece 33 = .ok (.ifCond .eq 15, 3) := by decide +kernel
theorem dX1_piece_36 : decode cX1_piece 36 = .ok (.iload 4, 2) := by decide +kernel
theorem dX1_piece_38 : decode cX1_piece 38 = .ok (.iload 5, 2) := by decide +kernel
theorem dX1_piece_40 : decode cX1_piece 40 = .ok (.aload_n 0, 1) := by decide +kernel
theorem dX1_piece_41 : decode cX1_piece 41 = .ok (.getfield 31, 3) := by decide +kernel
theorem dX1_piece_44 : decode cX1_piece 44 = .ok (.isub, 1) := by decide +kernel
theorem dX1_piece_45 : decode cX1_piece 45 = .ok (.if_icmp .le 13, 3) := by decide +kernel
theorem dX1_piece_48 : decode cX1_piece 48 = .ok (.new 35, 3) := by decide +kernel
theorem dX1_piece_51 : decode cX1_piece 51 = .ok (.dup, 1) := by decide +kernel
theorem dX1_piece_52 : decode cX1_piece 52 = .ok (.ldc 42, 2) := by decide +kernel
theorem dX1_piece_54 : decode cX1_piece 54 = .ok (.invokespecial 39, 3) := by decide +kernel
theorem dX1_piece_57 : decode cX1_piece 57 = .ok (.athrow, 1) := by decide +kernel
theorem dX1_piece_58 : decode cX1_piece 58 = .ok (.aload_n 0, 1) := by decide +kernel
theorem dX1_piece_59 : decode cX1_piece 59 = .ok (.getfield 31, 3) := by decide +kernel
theorem dX1_piece_62 : decode cX1_piece 62 = .ok (.istore 6, 2) := by decide +kernel
theorem dX1_piece_64 : decode cX1_piece 64 = .ok (.aload_n 0, 1) := by decide +kernel
theorem dX1_piece_65 : decode cX1_piece 65 = .ok (.iconst 0, 1) := by decide +kernel
theorem dX1_piece_66 : decode cX1_piece 66 = .ok (.putfield 31, 3) := by decide +kernel
theorem dX1_piece_69 : decode cX1_piece 69 = .ok (.aload_n 0, 1) := by decide +kernel
theorem dX1_piece_70 : decode cX1_piece 70 = .ok (.iload_n 1, 1) := by decide +kernel
theorem dX1_piece_71 : decode cX1_piece 71 = .ok (.iload_n 2, 1) := by decide +kernel
theorem dX1_piece_72 : decode cX1_piece 72 = .ok (.iload_n 3, 1) := by decide +kernel
theorem dX1_piece_73 : decode cX1_piece 73 = .ok (.invokevirtual 44, 3) := by decide +kernel
theorem dX1_piece_76 : decode cX1_piece 76 = .ok (.istore 7, 2) := by decide +kernel
theorem dX1_piece_78 : decode cX1_piece 78 = .ok (.iload 7, 2) := by decide +kernel
theorem dX1_piece_80 : decode cX1_piece 80 = .ok (.iconst (-1), 1) := by decide +kernel
theorem dX1_piece_81 : decode cX1_piece 81 = .ok (.if_icmp .ne 14, 3) := by decide +kernel
theorem dX1_piece_84 : decode cX1_piece 84 = .ok (.aload_n 0, 1) := by decide +kernel
theorem dX1_piece_85 : decode cX1_piece 85 = .ok (.iload_n 1, 1) := by decide +kernel
theorem dX1_piece_86 : decode cX1_piece 86 = .ok (.iload_n 2, 1) := by decide +kernel
theorem dX1_piece_87 : decode cX1_piece 87 = .ok (.iload_n 3, 1) := by decide +kernel
theorem dX1_piece_88 : decode cX1_piece 88 = .ok (.iload 5, 2) := by decide +kernel
theorem dX1_piece_90 : decode cX1_piece 90 = .ok (.invokevirtual 48, 3) := by decide +kernel
theorem dX1_piece_93 : decode cX1_piece 93 = .ok (.istore 7, 2) := by decide +kernel
theorem dX1_piece_95 : decode cX1_piece 95 = .ok (.aload_n 0, 1) := by decide +kernel
theorem dX1_piece_96 : decode cX1_piece 96 = .ok (.getfield 15, 3) := by decide +kernel
theorem dX1_piece_99 : decode cX1_piece 99 = .ok (.iload 7, 2) := by decide +kernel
theorem dX1_piece_101 : decode cX1_piece 101 = .ok (.aaload, 1) := by decide +kernel
theorem dX1_piece_102 : decode cX1_piece 102 = .ok (.astore 8, 2) := by decide +kernel
theorem dX1_piece_104 : decode cX1_piece 104 = .ok (.aload 8, 2) := by decide +kernel
theorem dX1_piece_106 : decode cX1_piece 106 = .ok (.getfield 52, 3) := by decide +kernel
theorem dX1_piece_109 : decode cX1_piece 109 = .ok (.iload 5, 2) := by decide +kernel
theorem dX1_piece_111 : decode cX1_piece 111 = .ok (.if_icmp .eq 5, 3) := by decide +kernel
theorem dX1_piece_114 : decode cX1_piece 114 = .ok (.iconst (-1), 1) := by decide +kernel
theorem dX1_piece_115 : decode cX1_piece 115 = .ok (.ireturn, 1) := by decide +kernel
theorem dX1_piece_116 : decode cX1_piece 116 = .ok (.aload 8, 2) := by decide +kernel
theorem dX1_piece_118 : decode cX1_piece 118 = .ok (.aload_n 0, 1) := by decide +kernel
theorem dX1_piece_119 : decode cX1_piece 119 = .ok (.getfield 9, 3) := by decide +kernel
theorem dX1_piece_122 : decode cX1_piece 122 = .ok (.iload 6, 2) := by decide +kernel
theorem dX1_piece_124 : decode cX1_piece 124 = .ok (.iload 4, 2) := by decide +kernel
theorem dX1_piece_126 : decode cX1_piece 126 = .ok (.invokevirtual 55, 3) := by decide +kernel
theorem dX1_piece_129 : decode cX1_piece 129 = .ok (.aload 8, 2) := by decide +kernel
theorem dX1_piece_131 : decode cX1_piece 131 = .ok (.getfield 59, 3) := by decide +kernel
theorem dX1_piece_134 : decode cX1_piece 134 = .ok (.ifCond .le 5, 3) := by decide +kernel
theorem dX1_piece_137 : decode cX1_piece 137 = .ok (.iconst 0, 1) := by decide +kernel
theorem dX1_piece_138 : decode cX1_piece 138 = .ok (.ireturn, 1) := by decide +kernel
theorem dX1_piece_139 : decode cX1_piece 139 = .ok (.aload_n 0, 1) := by decide +kernel
theorem dX1_piece_140 : decode cX1_piece 140 = .ok (.iload 7, 2) := by decide +kernel
theorem dX1_piece_142 : decode cX1_piece 142 = .ok (.invokevirtual 62, 3) := by decide +kernel
theorem dX1_piece_145 : decode cX1_piece 145 = .ok (.iconst 1, 1) := by decide +kernel
theorem dX1_piece_146 : decode cX1_piece 146 = .ok (.ireturn, 1) := by decide +kernel
theorem dX1_pass_0 : decode cX1_pass 0 = .ok (.iload_n 1, 1) := by decide +kernel
theorem dX1_pass_1 : decode cX1_pass 1 = .ok (.ifCond .lt 9, 3) := by decide +kernel
theorem dX1_pass_4 : decode cX1_pass 4 = .ok (.iload_n 1, 1) := by decide +kernel
theorem dX1_pass_5 : decode cX1_pass 5 = .ok (.ldc 66, 2) := by decide +kernel
theorem dX1_pass_7 : decode cX1_pass 7 = .ok (.if_icmp .le 13, 3) := by decide +kernel
theorem dX1_pass_10 : decode cX1_pass 10 = .ok (.new 24, 3) := by decide +kernel
theorem dX1_pass_13 : decode cX1_pass 13 = .ok (.dup, 1) := by decide +kernel
theorem dX1_pass_14 : decode cX1_pass 14 = .ok (.ldc 67, 2) := by decide +kernel
theorem dX1_pass_16 : decode cX1_pass 16 = .ok (.invokespecial 28, 3) := by decide +kernel
theorem dX1_pass_19 : decode cX1_pass 19 = .ok (.athrow, 1) := by decide +kernel
theorem dX1_pass_20 : decode cX1_pass 20 = .ok (.iload_n 1, 1) := by decide +kernel
theorem dX1_pass_21 : decode cX1_pass 21 = .ok (.ldc 69, 2) := by decide +kernel
theorem dX1_pass_23 : decode cX1_pass 23 = .ok (.aload_n 0, 1) := by decide +kernel
theorem dX1_pass_24 : decode cX1_pass 24 = .ok (.getfield 70, 3) := by decide +kernel
theorem dX1_pass_27 : decode cX1_pass 27 = .ok (.isub, 1) := by decide +kernel
theorem dX1_pass_28 : decode cX1_pass 28 = .ok (.if_icmp .le 13, 3) := by decide +kernel
theorem dX1_pass_31 : decode cX1_pass 31 = .ok (.new 35, 3) := by decide +kernel
theorem dX1_pass_34 : decode cX1_pass 34 = .ok (.dup, 1) := by decide +kernel
theorem dX1_pass_35 : decode cX1_pass 35 = .ok (.ldc 73, 2) := by decide +kernel
theorem dX1_pass_37 : decode cX1_pass 37 = .ok (.invokespecial 39, 3) := by decide +kernel
theorem dX1_pass_40 : decode cX1_pass 40 = .ok (.athrow, 1) := by decide +kernel
theorem dX1_pass_41 : decode cX1_pass 41 = .ok (.aload_n 0, 1) := by decide +kernel
theorem dX1_pass_42 : decode cX1_pass 42 = .ok (.dup, 1) := by decide +kernel
theorem dX1_pass_43 : decode cX1_pass 43 = .ok (.getfield 70, 3) := by decide +kernel
theorem dX1_pass_46 : decode cX1_pass 46 = .ok (.iload_n 1, 1) := by decide +kernel
theorem dX1_pass_47 : decode cX1_pass 47 = .ok (.iadd, 1) := by decide +kernel
theorem dX1_pass_48 : decode cX1_pass 48 = .ok (.putfield 70, 3) := by decide +kernel
theorem dX1_pass_51 : decode cX1_pass 51 = .ok (.aload_n 0, 1) := by decide +kernel
theorem dX1_pass_52 : decode cX1_pass 52 = .ok (.invokevirtual 75, 3) := by decide +kernel
theorem dX1_pass_55 : decode cX1_pass 55 = .ok (.ireturn, 1) := by decide +kernel
theorem dX1_about_0 : decode cX1_about 0 = .ok (.iload_n 1, 1) := by decide +kernel
theorem dX1_about_1 : decode cX1_about 1 = .ok (.ifCond .lt 8, 3) := by decide +kernel
theorem dX1_about_4 : decode cX1_about 4 = .ok (.iload_n 1, 1) := by decide +kernel
theorem dX1_about_5 : decode cX1_about 5 = .ok (.iconst 3, 1) := by decide +kernel
theorem dX1_about_6 : decode cX1_about 6 = .ok (.if_icmp .le 13, 3) := by decide +kernel
theorem dX1_about_9 : decode cX1_about 9 = .ok (.new 24, 3) := by decide +kernel
theorem dX1_about_12 : decode cX1_about 12 = .ok (.dup, 1) := by decide +kernel
theorem dX1_about_13 : decode cX1_about 13 = .ok (.ldc 79, 2) := by decide +kernel
theorem dX1_about_15 : decode cX1_about 15 = .ok (.invokespecial 28, 3) := by decide +kernel
theorem dX1_about_18 : decode cX1_about 18 = .ok (.athrow, 1) := by decide +kernel
theorem dX1_about_19 : decode cX1_about 19 = .ok (.aload_n 0, 1) := by decide +kernel
theorem dX1_about_20 : decode cX1_about 20 = .ok (.getfield 81, 3) := by decide +kernel
theorem dX1_about_23 : decode cX1_about 23 = .ok (.ifCond .ne 13, 3) := by decide +kernel
theorem dX1_about_26 : decode cX1_about 26 = .ok (.new 35, 3) := by decide +kernel
theorem dX1_about_29 : decode cX1_about 29 = .ok (.dup, 1) := by decide +kernel
theorem dX1_about_30 : decode cX1_about 30 = .ok (.ldc 85, 2) := by decide +kernel
theorem dX1_about_32 : decode cX1_about 32 = .ok (.invokespecial 39, 3) := by decide +kernel
theorem dX1_about_35 : decode cX1_about 35 = .ok (.athrow, 1) := by decide +kernel
theorem dX1_about_36 : decode cX1_about 36 = .ok (.iload_n 1, 1) := by decide +kernel
theorem dX1_about_37 : decode cX1_about 37 = .ok (.tableswitch 51 0 2 #[27, 35, 43], 27) := by decide +kernel
theorem dX1_about_64 : decode cX1_about 64 = .ok (.aload_n 0, 1) := by decide +kernel
theorem dX1_about_65 : decode cX1_about 65 = .ok (.getfield 20, 3) := by decide +kernel
theorem dX1_about_68 : decode cX1_about 68 = .ok (.getfield 87, 3) := by decide +kernel
theorem dX1_about_71 : decode cX1_about 71 = .ok (.ireturn, 1) := by decide +kernel
theorem dX1_about_72 : decode cX1_about 72 = .ok (.aload_n 0, 1) := by decide +kernel
theorem dX1_about_73 : decode cX1_about 73 = .ok (.getfield 20, 3) := by decide +kernel
theorem dX1_about_76 : decode cX1_about 76 = .ok (.getfield 90, 3) := by decide +kernel
theorem dX1_about_79 : decode cX1_about 79 = .ok (.ireturn, 1) := by decide +kernel
theorem dX1_about_80 : decode cX1_about 80 = .ok (.aload_n 0, 1) := by decide +kernel
theorem dX1_about_81 : decode cX1_about 81 = .ok (.getfield 20, 3) := by decide +kernel
theorem dX1_about_84 : decode cX1_about 84 = .ok (.getfield 93, 3) := by decide +kernel
theorem dX1_about_87 : decode cX1_about 87 = .ok (.ireturn, 1) := by decide +kernel
theorem dX1_about_88 : decode cX1_about 88 = .ok (.aload_n 0, 1) := by decide +kernel
theorem dX1_about_89 : decode cX1_about 89 = .ok (.getfield 20, 3) := by decide +kernel
theorem dX1_about_92 : decode cX1_about 92 = .ok (.getfield 52, 3) := by decide +kernel
theorem dX1_about_95 : decode cX1_about 95 = .ok (.ireturn, 1) := by decide +kernel
theorem dX1_byteAt_0 : decode cX1_byteAt 0 = .ok (.aload_n 0, 1) := by decide +kernel
theorem dX1_byteAt_1 : decode cX1_byteAt 1 = .ok (.getfield 81, 3) := by decide +kernel
theorem dX1_byteAt_4 : decode cX1_byteAt 4 = .ok (.ifCond .ne 13, 3) := by decide +kernel
theorem dX1_byteAt_7 : decode cX1_byteAt 7 = .ok (.new 35, 3) := by decide +kernel
theorem dX1_byteAt_10 : decode cX1_byteAt 10 = .ok (.dup, 1) := by decide +kernel
theorem dX1_byteAt_11 : decode cX1_byteAt 11 = .ok (.ldc 85, 2) := by decide +kernel
theorem dX1_byteAt_13 : decode cX1_byteAt 13 = .ok (.invokespecial 39, 3) := by decide +kernel
theorem dX1_byteAt_16 : decode cX1_byteAt 16 = .ok (.athrow, 1) := by decide +kernel
theorem dX1_byteAt_17 : decode cX1_byteAt 17 = .ok (.iload_n 1, 1) := by decide +kernel
theorem dX1_byteAt_18 : decode cX1_byteAt 18 = .ok (.ifCond .lt 14, 3) := by decide +kernel
theorem dX1_byteAt_21 : decode cX1_byteAt 21 = .ok (.iload_n 1, 1) := by decide +kernel
theorem dX1_byteAt_22 : decode cX1_byteAt 22 = .ok (.aload_n 0, 1) := by decide +kernel
theorem dX1_byteAt_23 : decode cX1_byteAt 23 = .ok (.getfield 20, 3) := by decide +kernel
theorem dX1_byteAt_26 : decode cX1_byteAt 26 = .ok (.getfield 52, 3) := by decide +kernel
theorem dX1_byteAt_29 : decode cX1_byteAt 29 = .ok (.if_icmp .lt 13, 3) := by decide +kernel
theorem dX1_byteAt_32 : decode cX1_byteAt 32 = .ok (.new 96, 3) := by decide +kernel
theorem dX1_byteAt_35 : decode cX1_byteAt 35 = .ok (.dup, 1) := by decide +kernel
theorem dX1_byteAt_36 : decode cX1_byteAt 36 = .ok (.ldc 98, 2) := by decide +kernel
theorem dX1_byteAt_38 : decode cX1_byteAt 38 = .ok (.invokespecial 100, 3) := by decide +kernel
theorem dX1_byteAt_41 : decode cX1_byteAt 41 = .ok (.athrow, 1) := by decide +kernel
theorem dX1_byteAt_42 : decode cX1_byteAt 42 = .ok (.aload_n 0, 1) := by decide +kernel
theorem dX1_byteAt_43 : decode cX1_byteAt 43 = .ok (.getfield 20, 3) := by decide +kernel
theorem dX1_byteAt_46 : decode cX1_byteAt 46 = .ok (.getfield 101, 3) := by decide +kernel
theorem dX1_byteAt_49 : decode cX1_byteAt 49 = .ok (.iload_n 1, 1) := by decide +kernel
theorem dX1_byteAt_50 : decode cX1_byteAt 50 = .ok (.iaload, 1) := by decide +kernel
theorem dX1_byteAt_51 : decode cX1_byteAt 51 = .ok (.ireturn, 1) := by decide +kernel
theorem dX1_missing_0 : decode cX1_missing 0 = .ok (.aload_n 0, 1) := by decide +kernel
theorem dX1_missing_1 : decode cX1_missing 1 = .ok (.iload_n 1, 1) := by decide +kernel
theorem dX1_missing_2 : decode cX1_missing 2 = .ok (.iload_n 2, 1) := by decide +kernel
theorem dX1_missing_3 : decode cX1_missing 3 = .ok (.iload_n 3, 1) := by decide +kernel
theorem dX1_missing_4 : decode cX1_missing 4 = .ok (.invokevirtual 44, 3) := by decide +kernel
theorem dX1_missing_7 : decode cX1_missing 7 = .ok (.istore 4, 2) := by decide +kernel
theorem dX1_missing_9 : decode cX1_missing 9 = .ok (.iload 4, 2) := by decide +kernel
theorem dX1_missing_11 : decode cX1_missing 11 = .ok (.iconst (-1), 1) := by decide +kernel
theorem dX1_missing_12 : decode cX1_missing 12 = .ok (.if_icmp .ne 7, 3) := by decide +kernel
theorem dX1_missing_15 : decode cX1_missing 15 = .ok (.iconst (-1), 1) := by decide +kernel
theorem dX1_missing_16 : decode cX1_missing 16 = .ok (.goto 13, 3) := by decide +kernel
theorem dX1_missing_19 : decode cX1_missing 19 = .ok (.aload_n 0, 1) := by decide +kernel
theorem dX1_missing_20 : decode cX1_missing 20 = .ok (.getfield 15, 3) := by decide +kernel
theorem dX1_missing_23 : decode cX1_missing 23 = .ok (.iload 4, 2) := by decide +kernel
theorem dX1_missing_25 : decode cX1_missing 25 = .ok (.aaload, 1) := by decide +kernel
theorem dX1_missing_26 : decode cX1_missing 26 = .ok (.getfield 59, 3) := by decide +kernel
theorem dX1_missing_29 : decode cX1_missing 29 = .ok (.ireturn, 1) := by decide +kernel
theorem dX1_has_0 : decode cX1_has 0 = .ok (.aload_n 0, 1) := by decide +kernel
theorem dX1_has_1 : decode cX1_has 1 = .ok (.iload_n 1, 1) := by decide +kernel
theorem dX1_has_2 : decode cX1_has 2 = .ok (.iload_n 2, 1) := by decide +kernel
theorem dX1_has_3 : decode cX1_has 3 = .ok (.iload_n 3, 1) := by decide +kernel
theorem dX1_has_4 : decode cX1_has 4 = .ok (.invokevirtual 44, 3) := by decide +kernel
theorem dX1_has_7 : decode cX1_has 7 = .ok (.istore 5, 2) := by decide +kernel
theorem dX1_has_9 : decode cX1_has 9 = .ok (.iload 5, 2) := by decide +kernel
theorem dX1_has_11 : decode cX1_has 11 = .ok (.iconst (-1), 1) := by decide +kernel
theorem dX1_has_12 : decode cX1_has 12 = .ok (.if_icmp .eq 22, 3) := by decide +kernel
theorem dX1_has_15 : decode cX1_has 15 = .ok (.aload_n 0, 1) := by decide +kernel
theorem dX1_has_16 : decode cX1_has 16 = .ok (.getfield 15, 3) := by decide +kernel
theorem dX1_has_19 : decode cX1_has 19 = .ok (.iload 5, 2) := by decide +kernel
theorem dX1_has_21 : decode cX1_has 21 = .ok (.aaload, 1) := by decide +kernel
theorem dX1_has_22 : decode cX1_has 22 = .ok (.iload 4, 2) := by decide +kernel
theorem dX1_has_24 : decode cX1_has 24 = .ok (.invokevirtual 104, 3) := by decide +kernel
theorem dX1_has_27 : decode cX1_has 27 = .ok (.ifCond .eq 7, 3) := by decide +kernel
theorem dX1_has_30 : decode cX1_has 30 = .ok (.iconst 1, 1) := by decide +kernel
theorem dX1_has_31 : decode cX1_has 31 = .ok (.goto 4, 3) := by decide +kernel
theorem dX1_has_34 : decode cX1_has 34 = .ok (.iconst 0, 1) := by decide +kernel
theorem dX1_has_35 : decode cX1_has 35 = .ok (.ireturn, 1) := by decide +kernel
theorem dX1_waiting_0 : decode cX1_waiting 0 = .ok (.aload_n 0, 1) := by decide +kernel
theorem dX1_waiting_1 : decode cX1_waiting 1 = .ok (.getfield 108, 3) := by decide +kernel
theorem dX1_waiting_4 : decode cX1_waiting 4 = .ok (.ireturn, 1) := by decide +kernel
theorem dX1_placeOf_0 : decode cX1_placeOf 0 = .ok (.iconst 0, 1) := by decide +kernel
theorem dX1_placeOf_1 : decode cX1_placeOf 1 = .ok (.istore 4, 2) := by decide +kernel
theorem dX1_placeOf_3 : decode cX1_placeOf 3 = .ok (.iload 4, 2) := by decide +kernel
theorem dX1_placeOf_5 : decode cX1_placeOf 5 = .ok (.aload_n 0, 1) := by decide +kernel
theorem dX1_placeOf_6 : decode cX1_placeOf 6 = .ok (.getfield 108, 3) := by decide +kernel
theorem dX1_placeOf_9 : decode cX1_placeOf 9 = .ok (.if_icmp .ge 28, 3) := by decide +kernel
theorem dX1_placeOf_12 : decode cX1_placeOf 12 = .ok (.aload_n 0, 1) := by decide +kernel
theorem dX1_placeOf_13 : decode cX1_placeOf 13 = .ok (.getfield 15, 3) := by decide +kernel
theorem dX1_placeOf_16 : decode cX1_placeOf 16 = .ok (.iload 4, 2) := by decide +kernel
theorem dX1_placeOf_18 : decode cX1_placeOf 18 = .ok (.aaload, 1) := by decide +kernel
theorem dX1_placeOf_19 : decode cX1_placeOf 19 = .ok (.iload_n 1, 1) := by decide +kernel
theorem dX1_placeOf_20 : decode cX1_placeOf 20 = .ok (.iload_n 2, 1) := by decide +kernel
theorem dX1_placeOf_21 : decode cX1_placeOf 21 = .ok (.iload_n 3, 1) := by decide +kernel
theorem dX1_placeOf_22 : decode cX1_placeOf 22 = .ok (.invokevirtual 111, 3) := by decide +kernel
theorem dX1_placeOf_25 : decode cX1_placeOf 25 = .ok (.ifCond .eq 6, 3) := by decide +kernel
theorem dX1_placeOf_28 : decode cX1_placeOf 28 = .ok (.iload 4, 2) := by decide +kernel
theorem dX1_placeOf_30 : decode cX1_placeOf 30 = .ok (.ireturn, 1) := by decide +kernel
theorem dX1_placeOf_31 : decode cX1_placeOf 31 = .ok (.iinc 4 1, 3) := by decide +kernel
theorem dX1_placeOf_34 : decode cX1_placeOf 34 = .ok (.goto (-31), 3) := by decide +kernel
theorem dX1_placeOf_37 : decode cX1_placeOf 37 = .ok (.iconst (-1), 1) := by decide +kernel
theorem dX1_placeOf_38 : decode cX1_placeOf 38 = .ok (.ireturn, 1) := by decide +kernel
theorem dX1_beginOnBench_0 : decode cX1_beginOnBench 0 = .ok (.aload_n 0, 1) := by decide +kernel
theorem dX1_beginOnBench_1 : decode cX1_beginOnBench 1 = .ok (.getfield 108, 3) := by decide +kernel
theorem dX1_beginOnBench_4 : decode cX1_beginOnBench 4 = .ok (.iconst 4, 1) := by decide +kernel
theorem dX1_beginOnBench_5 : decode cX1_beginOnBench 5 = .ok (.if_icmp .ne 8, 3) := by decide +kernel
theorem dX1_beginOnBench_8 : decode cX1_beginOnBench 8 = .ok (.aload_n 0, 1) := by decide +kernel
theorem dX1_beginOnBench_9 : decode cX1_beginOnBench 9 = .ok (.iconst 0, 1) := by decide +kernel
theorem dX1_beginOnBench_10 : decode cX1_beginOnBench 10 = .ok (.invokevirtual 115, 3) := by decide +kernel
theorem dX1_beginOnBench_13 : decode cX1_beginOnBench 13 = .ok (.aload_n 0, 1) := by decide +kernel
theorem dX1_beginOnBench_14 : decode cX1_beginOnBench 14 = .ok (.getfield 108, 3) := by decide +kernel
theorem dX1_beginOnBench_17 : decode cX1_beginOnBench 17 = .ok (.istore 5, 2) := by decide +kernel
theorem dX1_beginOnBench_19 : decode cX1_beginOnBench 19 = .ok (.aload_n 0, 1) := by decide +kernel
theorem dX1_beginOnBench_20 : decode cX1_beginOnBench 20 = .ok (.getfield 15, 3) := by decide +kernel
theorem dX1_beginOnBench_23 : decode cX1_beginOnBench 23 = .ok (.iload 5, 2) := by decide +kernel
theorem dX1_beginOnBench_25 : decode cX1_beginOnBench 25 = .ok (.aaload, 1) := by decide +kernel
theorem dX1_beginOnBench_26 : decode cX1_beginOnBench 26 = .ok (.iload_n 1, 1) := by decide +kernel
theorem dX1_beginOnBench_27 : decode cX1_beginOnBench 27 = .ok (.iload_n 2, 1) := by decide +kernel
theorem dX1_beginOnBench_28 : decode cX1_beginOnBench 28 = .ok (.iload_n 3, 1) := by decide +kernel
theorem dX1_beginOnBench_29 : decode cX1_beginOnBench 29 = .ok (.iload 4, 2) := by decide +kernel
theorem dX1_beginOnBench_31 : decode cX1_beginOnBench 31 = .ok (.aload_n 0, 1) := by decide +kernel
theorem dX1_beginOnBench_32 : decode cX1_beginOnBench 32 = .ok (.getfield 70, 3) := by decide +kernel
theorem dX1_beginOnBench_35 : decode cX1_beginOnBench 35 = .ok (.invokevirtual 118, 3) := by decide +kernel
theorem dX1_beginOnBench_38 : decode cX1_beginOnBench 38 = .ok (.aload_n 0, 1) := by decide +kernel
theorem dX1_beginOnBench_39 : decode cX1_beginOnBench 39 = .ok (.dup, 1) := by decide +kernel
theorem dX1_beginOnBench_40 : decode cX1_beginOnBench 40 = .ok (.getfield 108, 3) := by decide +kernel
theorem dX1_beginOnBench_43 : decode cX1_beginOnBench 43 = .ok (.iconst 1, 1) := by decide +kernel
theorem dX1_beginOnBench_44 : decode cX1_beginOnBench 44 = .ok (.iadd, 1) := by decide +kernel
theorem dX1_beginOnBench_45 : decode cX1_beginOnBench 45 = .ok (.putfield 108, 3) := by decide +kernel
theorem dX1_beginOnBench_48 : decode cX1_beginOnBench 48 = .ok (.iload 5, 2) := by decide +kernel
theorem dX1_beginOnBench_50 : decode cX1_beginOnBench 50 = .ok (.ireturn, 1) := by decide +kernel
theorem dX1_forget_0 : decode cX1_forget 0 = .ok (.aload_n 0, 1) := by decide +kernel
theorem dX1_forget_1 : decode cX1_forget 1 = .ok (.getfield 15, 3) := by decide +kernel
theorem dX1_forget_4 : decode cX1_forget 4 = .ok (.iload_n 1, 1) := by decide +kernel
theorem dX1_forget_5 : decode cX1_forget 5 = .ok (.aaload, 1) := by decide +kernel
theorem dX1_forget_6 : decode cX1_forget 6 = .ok (.astore_n 2, 1) := by decide +kernel
theorem dX1_forget_7 : decode cX1_forget 7 = .ok (.aload_n 0, 1) := by decide +kernel
theorem dX1_forget_8 : decode cX1_forget 8 = .ok (.dup, 1) := by decide +kernel
theorem dX1_forget_9 : decode cX1_forget 9 = .ok (.getfield 108, 3) := by decide +kernel
theorem dX1_forget_12 : decode cX1_forget 12 = .ok (.iconst 1, 1) := by decide +kernel
theorem dX1_forget_13 : decode cX1_forget 13 = .ok (.isub, 1) := by decide +kernel
theorem dX1_forget_14 : decode cX1_forget 14 = .ok (.putfield 108, 3) := by decide +kernel
theorem dX1_forget_17 : decode cX1_forget 17 = .ok (.iload_n 1, 1) := by decide +kernel
theorem dX1_forget_18 : decode cX1_forget 18 = .ok (.istore_n 3, 1) := by decide +kernel
theorem dX1_forget_19 : decode cX1_forget 19 = .ok (.iload_n 3, 1) := by decide +kernel
theorem dX1_forget_20 : decode cX1_forget 20 = .ok (.aload_n 0, 1) := by decide +kernel
theorem dX1_forget_21 : decode cX1_forget 21 = .ok (.getfield 108, 3) := by decide +kernel
theorem dX1_forget_24 : decode cX1_forget 24 = .ok (.if_icmp .ge 23, 3) := by decide +kernel
theorem dX1_forget_27 : decode cX1_forget 27 = .ok (.aload_n 0, 1) := by decide +kernel
theorem dX1_forget_28 : decode cX1_forget 28 = .ok (.getfield 15, 3) := by decide +kernel
theorem dX1_forget_31 : decode cX1_forget 31 = .ok (.iload_n 3, 1) := by decide +kernel
theorem dX1_forget_32 : decode cX1_forget 32 = .ok (.aload_n 0, 1) := by decide +kernel
theorem dX1_forget_33 : decode cX1_forget 33 = .ok (.getfield 15, 3) := by decide +kernel
theorem dX1_forget_36 : decode cX1_forget 36 = .ok (.iload_n 3, 1) := by decide +kernel
theorem dX1_forget_37 : decode cX1_forget 37 = .ok (.iconst 1, 1) := by decide +kernel
theorem dX1_forget_38 : decode cX1_forget 38 = .ok (.iadd, 1) := by decide +kernel
theorem dX1_forget_39 : decode cX1_forget 39 = .ok (.aaload, 1) := by decide +kernel
theorem dX1_forget_40 : decode cX1_forget 40 = .ok (.aastore, 1) := by decide +kernel
theorem dX1_forget_41 : decode cX1_forget 41 = .ok (.iinc 3 1, 3) := by decide +kernel
theorem dX1_forget_44 : decode cX1_forget 44 = .ok (.goto (-25), 3) := by decide +kernel
theorem dX1_forget_47 : decode cX1_forget 47 = .ok (.aload_n 0, 1) := by decide +kernel
theorem dX1_forget_48 : decode cX1_forget 48 = .ok (.getfield 15, 3) := by decide +kernel
theorem dX1_forget_51 : decode cX1_forget 51 = .ok (.aload_n 0, 1) := by decide +kernel
theorem dX1_forget_52 : decode cX1_forget 52 = .ok (.getfield 108, 3) := by decide +kernel
theorem dX1_forget_55 : decode cX1_forget 55 = .ok (.aload_n 2, 1) := by decide +kernel
theorem dX1_forget_56 : decode cX1_forget 56 = .ok (.aastore, 1) := by decide +kernel
theorem dX1_forget_57 : decode cX1_forget 57 = .ok (.return_, 1) := by decide +kernel
theorem dX1_finish_0 : decode cX1_finish 0 = .ok (.aload_n 0, 1) := by decide +kernel
theorem dX1_finish_1 : decode cX1_finish 1 = .ok (.iload_n 1, 1) := by decide +kernel
theorem dX1_finish_2 : decode cX1_finish 2 = .ok (.invokevirtual 115, 3) := by decide +kernel
theorem dX1_finish_5 : decode cX1_finish 5 = .ok (.aload_n 0, 1) := by decide +kernel
theorem dX1_finish_6 : decode cX1_finish 6 = .ok (.getfield 20, 3) := by decide +kernel
theorem dX1_finish_9 : decode cX1_finish 9 = .ok (.astore_n 2, 1) := by decide +kernel
theorem dX1_finish_10 : decode cX1_finish 10 = .ok (.aload_n 0, 1) := by decide +kernel
theorem dX1_finish_11 : decode cX1_finish 11 = .ok (.aload_n 0, 1) := by decide +kernel
theorem dX1_finish_12 : decode cX1_finish 12 = .ok (.getfield 15, 3) := by decide +kernel
theorem dX1_finish_15 : decode cX1_finish 15 = .ok (.aload_n 0, 1) := by decide +kernel
theorem dX1_finish_16 : decode cX1_finish 16 = .ok (.getfield 108, 3) := by decide +kernel
theorem dX1_finish_19 : decode cX1_finish 19 = .ok (.aaload, 1) := by decide +kernel
theorem dX1_finish_20 : decode cX1_finish 20 = .ok (.putfield 20, 3) := by decide +kernel
theorem dX1_finish_23 : decode cX1_finish 23 = .ok (.aload_n 0, 1) := by decide +kernel
theorem dX1_finish_24 : decode cX1_finish 24 = .ok (.getfield 15, 3) := by decide +kernel
theorem dX1_finish_27 : decode cX1_finish 27 = .ok (.aload_n 0, 1) := by decide +kernel
theorem dX1_finish_28 : decode cX1_finish 28 = .ok (.getfield 108, 3) := by decide +kernel
theorem dX1_finish_31 : decode cX1_finish 31 = .ok (.aload_n 2, 1) := by decide +kernel
theorem dX1_finish_32 : decode cX1_finish 32 = .ok (.aastore, 1) := by decide +kernel
theorem dX1_finish_33 : decode cX1_finish 33 = .ok (.aload_n 0, 1) := by decide +kernel
theorem dX1_finish_34 : decode cX1_finish 34 = .ok (.iconst 1, 1) := by decide +kernel
theorem dX1_finish_35 : decode cX1_finish 35 = .ok (.putfield 81, 3) := by decide +kernel
theorem dX1_finish_38 : decode cX1_finish 38 = .ok (.return_, 1) := by decide +kernel
theorem dX1_giveUpOverdue_0 : decode cX1_giveUpOverdue 0 = .ok (.iconst 0, 1) := by decide +kernel
theorem dX1_giveUpOverdue_1 : decode cX1_giveUpOverdue 1 = .ok (.istore_n 1, 1) := by decide +kernel
theorem dX1_giveUpOverdue_2 : decode cX1_giveUpOverdue 2 = .ok (.iload_n 1, 1) := by decide +kernel
theorem dX1_giveUpOverdue_3 : decode cX1_giveUpOverdue 3 = .ok (.iconst 4, 1) := by decide +kernel
theorem dX1_giveUpOverdue_4 : decode cX1_giveUpOverdue 4 = .ok (.if_icmp .ge 41, 3) := by decide +kernel
theorem dX1_giveUpOverdue_7 : decode cX1_giveUpOverdue 7 = .ok (.aload_n 0, 1) := by decide +kernel
theorem dX1_giveUpOverdue_8 : decode cX1_giveUpOverdue 8 = .ok (.getfield 108, 3) := by decide +kernel
theorem dX1_giveUpOverdue_11 : decode cX1_giveUpOverdue 11 = .ok (.ifCond .le 34, 3) := by decide +kernel
theorem dX1_giveUpOverdue_14 : decode cX1_giveUpOverdue 14 = .ok (.aload_n 0, 1) := by decide +kernel
theorem dX1_giveUpOverdue_15 : decode cX1_giveUpOverdue 15 = .ok (.getfield 70, 3) := by decide +kernel
theorem dX1_giveUpOverdue_18 : decode cX1_giveUpOverdue 18 = .ok (.aload_n 0, 1) := by decide +kernel
theorem dX1_giveUpOverdue_19 : decode cX1_giveUpOverdue 19 = .ok (.getfield 15, 3) := by decide +kernel
theorem dX1_giveUpOverdue_22 : decode cX1_giveUpOverdue 22 = .ok (.iconst 0, 1) := by decide +kernel
theorem dX1_giveUpOverdue_23 : decode cX1_giveUpOverdue 23 = .ok (.aaload, 1) := by decide +kernel
theorem dX1_giveUpOverdue_24 : decode cX1_giveUpOverdue 24 = .ok (.getfield 122, 3) := by decide +kernel
theorem dX1_giveUpOverdue_27 : decode cX1_giveUpOverdue 27 = .ok (.isub, 1) := by decide +kernel
theorem dX1_giveUpOverdue_28 : decode cX1_giveUpOverdue 28 = .ok (.sipush 300, 3) := by decide +kernel
theorem dX1_giveUpOverdue_31 : decode cX1_giveUpOverdue 31 = .ok (.if_icmp .lt 14, 3) := by decide +kernel
theorem dX1_giveUpOverdue_34 : decode cX1_giveUpOverdue 34 = .ok (.aload_n 0, 1) := by decide +kernel
theorem dX1_giveUpOverdue_35 : decode cX1_giveUpOverdue 35 = .ok (.iconst 0, 1) := by decide +kernel
theorem dX1_giveUpOverdue_36 : decode cX1_giveUpOverdue 36 = .ok (.invokevirtual 115, 3) := by decide +kernel
theorem dX1_giveUpOverdue_39 : decode cX1_giveUpOverdue 39 = .ok (.iinc 1 1, 3) := by decide +kernel
theorem dX1_giveUpOverdue_42 : decode cX1_giveUpOverdue 42 = .ok (.goto (-40), 3) := by decide +kernel
theorem dX1_giveUpOverdue_45 : decode cX1_giveUpOverdue 45 = .ok (.iload_n 1, 1) := by decide +kernel
theorem dX1_giveUpOverdue_46 : decode cX1_giveUpOverdue 46 = .ok (.ireturn, 1) := by decide +kernel
theorem dX0_init_0 : decode cX0_init 0 = .ok (.aload_n 0, 1) := by decide +kernel
theorem dX0_init_1 : decode cX0_init 1 = .ok (.invokespecial 3, 3) := by decide +kernel
theorem dX0_init_4 : decode cX0_init 4 = .ok (.aload_n 0, 1) := by decide +kernel
theorem dX0_init_5 : decode cX0_init 5 = .ok (.sipush 1480, 3) := by decide +kernel
theorem dX0_init_8 : decode cX0_init 8 = .ok (.newarray .int, 2) := by decide +kernel
theorem dX0_init_10 : decode cX0_init 10 = .ok (.putfield 9, 3) := by decide +kernel
theorem dX0_init_13 : decode cX0_init 13 = .ok (.return_, 1) := by decide +kernel
theorem dX0_begin_0 : decode cX0_begin 0 = .ok (.aload_n 0, 1) := by decide +kernel
theorem dX0_begin_1 : decode cX0_begin 1 = .ok (.iload_n 1, 1) := by decide +kernel
theorem dX0_begin_2 : decode cX0_begin 2 = .ok (.putfield 15, 3) := by decide +kernel
theorem dX0_begin_5 : decode cX0_begin 5 = .ok (.aload_n 0, 1) := by decide +kernel
theorem dX0_begin_6 : decode cX0_begin 6 = .ok (.iload_n 2, 1) := by decide +kernel
theorem dX0_begin_7 : decode cX0_begin 7 = .ok (.putfield 19, 3) := by decide +kernel
theorem dX0_begin_10 : decode cX0_begin 10 = .ok (.aload_n 0, 1) := by decide +kernel
theorem dX0_begin_11 : decode cX0_begin 11 = .ok (.iload_n 3, 1) := by decide +kernel
theorem dX0_begin_12 : decode cX0_begin 12 = .ok (.putfield 22, 3) := by decide +kernel
theorem dX0_begin_15 : decode cX0_begin 15 = .ok (.aload_n 0, 1) := by decide +kernel
theorem dX0_begin_16 : decode cX0_begin 16 = .ok (.iload 4, 2) := by decide +kernel
theorem dX0_begin_18 : decode cX0_begin 18 = .ok (.putfield 25, 3) := by decide +kernel
theorem dX0_begin_21 : decode cX0_begin 21 = .ok (.aload_n 0, 1) := by decide +kernel
theorem dX0_begin_22 : decode cX0_begin 22 = .ok (.iload 4, 2) := by decide +kernel
theorem dX0_begin_24 : decode cX0_begin 24 = .ok (.putfield 28, 3) := by decide +kernel
theorem dX0_begin_27 : decode cX0_begin 27 = .ok (.aload_n 0, 1) := by decide +kernel
theorem dX0_begin_28 : decode cX0_begin 28 = .ok (.iload 5, 2) := by decide +kernel
theorem dX0_begin_30 : decode cX0_begin 30 = .ok (.putfield 31, 3) := by decide +kernel
theorem dX0_begin_33 : decode cX0_begin 33 = .ok (.aload_n 0, 1) := by decide +kernel
theorem dX0_begin_34 : decode cX0_begin 34 = .ok (.getfield 9, 3) := by decide +kernel
theorem dX0_begin_37 : decode cX0_begin 37 = .ok (.iconst (-1), 1) := by decide +kernel
theorem dX0_begin_38 : decode cX0_begin 38 = .ok (.invokestatic 34, 3) := by decide +kernel
theorem dX0_begin_41 : decode cX0_begin 41 = .ok (.return_, 1) := by decide +kernel
theorem dX0_isTold_0 : decode cX0_isTold 0 = .ok (.aload_n 0, 1) := by decide +kernel
theorem dX0_isTold_1 : decode cX0_isTold 1 = .ok (.getfield 15, 3) := by decide +kernel
theorem dX0_isTold_4 : decode cX0_isTold 4 = .ok (.iload_n 1, 1) := by decide +kernel
theorem dX0_isTold_5 : decode cX0_isTold 5 = .ok (.if_icmp .ne 23, 3) := by decide +kernel
theorem dX0_isTold_8 : decode cX0_isTold 8 = .ok (.aload_n 0, 1) := by decide +kernel
theorem dX0_isTold_9 : decode cX0_isTold 9 = .ok (.getfield 19, 3) := by decide +kernel
theorem dX0_isTold_12 : decode cX0_isTold 12 = .ok (.iload_n 2, 1) := by decide +kernel
theorem dX0_isTold_13 : decode cX0_isTold 13 = .ok (.if_icmp .ne 15, 3) := by decide +kernel
theorem dX0_isTold_16 : decode cX0_isTold 16 = .ok (.aload_n 0, 1) := by decide +kernel
theorem dX0_isTold_17 : decode cX0_isTold 17 = .ok (.getfield 22, 3) := by decide +kernel
theorem dX0_isTold_20 : decode cX0_isTold 20 = .ok (.iload_n 3, 1) := by decide +kernel
theorem dX0_isTold_21 : decode cX0_isTold 21 = .ok (.if_icmp .ne 7, 3) := by decide +kernel
theorem dX0_isTold_24 : decode cX0_isTold 24 = .ok (.iconst 1, 1) := by decide +kernel
theorem dX0_isTold_25 : decode cX0_isTold 25 = .ok (.goto 4, 3) := by decide +kernel
theorem dX0_isTold_28 : decode cX0_isTold 28 = .ok (.iconst 0, 1) := by decide +kernel
theorem dX0_isTold_29 : decode cX0_isTold 29 = .ok (.ireturn, 1) := by decide +kernel
theorem dX0_take_0 : decode cX0_take 0 = .ok (.iconst 0, 1) := by decide +kernel
theorem dX0_take_1 : decode cX0_take 1 = .ok (.istore 4, 2) := by decide +kernel
theorem dX0_take_3 : decode cX0_take 3 = .ok (.iload 4, 2) := by decide +kernel
theorem dX0_take_5 : decode cX0_take 5 = .ok (.iload_n 2, 1) := by decide +kernel
theorem dX0_take_6 : decode cX0_take 6 = .ok (.if_icmp .ge 45, 3) := by decide +kernel
theorem dX0_take_9 : decode cX0_take 9 = .ok (.aload_n 0, 1) := by decide +kernel
theorem dX0_take_10 : decode cX0_take 10 = .ok (.getfield 9, 3) := by decide +kernel
theorem dX0_take_13 : decode cX0_take 13 = .ok (.iload_n 3, 1) := by decide +kernel
theorem dX0_take_14 : decode cX0_take 14 = .ok (.iload 4, 2) := by decide +kernel
theorem dX0_take_16 : decode cX0_take 16 = .ok (.iadd, 1) := by decide +kernel
theorem dX0_take_17 : decode cX0_take 17 = .ok (.iaload, 1) := by decide +kernel
theorem dX0_take_18 : decode cX0_take 18 = .ok (.iconst (-1), 1) := by decide +kernel
theorem dX0_take_19 : decode cX0_take 19 = .ok (.if_icmp .ne 26, 3) := by decide +kernel
theorem dX0_take_22 : decode cX0_take 22 = .ok (.aload_n 0, 1) := by decide +kernel
theorem dX0_take_23 : decode cX0_take 23 = .ok (.getfield 9, 3) := by decide +kernel
theorem dX0_take_26 : decode cX0_take 26 = .ok (.iload_n 3, 1) := by decide +kernel
theorem dX0_take_27 : decode cX0_take 27 = .ok (.iload 4, 2) := by decide +kernel
theorem dX0_take_29 : decode cX0_take 29 = .ok (.iadd, 1) := by decide +kernel
theorem dX0_take_30 : decode cX0_take 30 = .ok (.aload_n 1, 1) := by decide +kernel
theorem dX0_take_31 : decode cX0_take 31 = .ok (.iload 4, 2) := by decide +kernel
theorem dX0_take_33 : decode cX0_take 33 = .ok (.iaload, 1) := by decide +kernel
theorem dX0_take_34 : decode cX0_take 34 = .ok (.iastore, 1) := by decide +kernel
theorem dX0_take_35 : decode cX0_take 35 = .ok (.aload_n 0, 1) := by decide +kernel
theorem dX0_take_36 : decode cX0_take 36 = .ok (.dup, 1) := by decide +kernel
theorem dX0_take_37 : decode cX0_take 37 = .ok (.getfield 28, 3) := by decide +kernel
theorem dX0_take_40 : decode cX0_take 40 = .ok (.iconst 1, 1) := by decide +kernel
theorem dX0_take_41 : decode cX0_take 41 = .ok (.isub, 1) := by decide +kernel
theorem dX0_take_42 : decode cX0_take 42 = .ok (.putfield 28, 3) := by decide +kernel
theorem dX0_take_45 : decode cX0_take 45 = .ok (.iinc 4 1, 3) := by decide +kernel
theorem dX0_take_48 : decode cX0_take 48 = .ok (.goto (-45), 3) := by decide +kernel
theorem dX0_take_51 : decode cX0_take 51 = .ok (.return_, 1) := by decide +kernel
theorem dX0_holds_0 : decode cX0_holds 0 = .ok (.iload_n 1, 1) := by decide +kernel
theorem dX0_holds_1 : decode cX0_holds 1 = .ok (.ifCond .lt 25, 3) := by decide +kernel
theorem dX0_holds_4 : decode cX0_holds 4 = .ok (.iload_n 1, 1) := by decide +kernel
theorem dX0_holds_5 : decode cX0_holds 5 = .ok (.aload_n 0, 1) := by decide +kernel
theorem dX0_holds_6 : decode cX0_holds 6 = .ok (.getfield 25, 3) := by decide +kernel
theorem dX0_holds_9 : decode cX0_holds 9 = .ok (.if_icmp .ge 17, 3) := by decide +kernel
theorem dX0_holds_12 : decode cX0_holds 12 = .ok (.aload_n 0, 1) := by decide +kernel
theorem dX0_holds_13 : decode cX0_holds 13 = .ok (.getfield 9, 3) := by decide +kernel
theorem dX0_holds_16 : decode cX0_holds 16 = .ok (.iload_n 1, 1) := by decide +kernel
theorem dX0_holds_17 : decode cX0_holds 17 = .ok (.iaload, 1) := by decide +kernel
theorem dX0_holds_18 : decode cX0_holds 18 = .ok (.iconst (-1), 1) := by decide +kernel
theorem dX0_holds_19 : decode cX0_holds 19 = .ok (.if_icmp .eq 7, 3) := by decide +kernel
theorem dX0_holds_22 : decode cX0_holds 22 = .ok (.iconst 1, 1) := by decide +kernel
theorem dX0_holds_23 : decode cX0_holds 23 = .ok (.goto 4, 3) := by decide +kernel
theorem dX0_holds_26 : decode cX0_holds 26 = .ok (.iconst 0, 1) := by decide +kernel
theorem dX0_holds_27 : decode cX0_holds 27 = .ok (.ireturn, 1) := by decide +kernel
theorem dF_0 : decode cF 0 = .ok (.iconst 0, 1) := by decide +kernel
theorem dF_1 : decode cF 1 = .ok (.istore_n 2, 1) := by decide +kernel
theorem dF_2 : decode cF 2 = .ok (.aload_n 0, 1) := by decide +kernel
theorem dF_3 : decode cF 3 = .ok (.arraylength, 1) := by decide +kernel
theorem dF_4 : decode cF 4 = .ok (.istore_n 3, 1) := by decide +kernel
theorem dF_5 : decode cF 5 = .ok (.iload_n 2, 1) := by decide +kernel
theorem dF_6 : decode cF 6 = .ok (.iload_n 3, 1) := by decide +kernel
theorem dF_7 : decode cF 7 = .ok (.if_icmp .ge 13, 3) := by decide +kernel
theorem dF_10 : decode cF 10 = .ok (.aload_n 0, 1) := by decide +kernel
theorem dF_11 : decode cF 11 = .ok (.iload_n 2, 1) := by decide +kernel
theorem dF_12 : decode cF 12 = .ok (.iload_n 1, 1) := by decide +kernel
theorem dF_13 : decode cF 13 = .ok (.iastore, 1) := by decide +kernel
theorem dF_14 : decode cF 14 = .ok (.iinc 2 1, 3) := by decide +kernel
theorem dF_17 : decode cF 17 = .ok (.goto (-12), 3) := by decide +kernel
theorem dF_20 : decode cF 20 = .ok (.return_, 1) := by decide +kernel
end
section
/-! what each instruction is -/
theorem dM_init_0 : decode cM_init 0 = .ok (.aload_n 0, 1) := by decide +kernel
theorem dM_init_1 : decode cM_init 1 = .ok (.invokespecial 1, 3) := by decide +kernel
theorem dM_init_4 : decode cM_init 4 = .ok (.aload_n 0, 1) := by decide +kernel
theorem dM_init_5 : decode cM_init 5 = .ok (.sipush 1480, 3) := by decide +kernel
theorem dM_init_8 : decode cM_init 8 = .ok (.newarray .int, 2) := by decide +kernel
theorem dM_init_10 : decode cM_init 10 = .ok (.putfield 7, 3) := by decide +kernel
theorem dM_init_13 : decode cM_init 13 = .ok (.aload_n 0, 1) := by decide +kernel
theorem dM_init_14 : decode cM_init 14 = .ok (.iconst 5, 1) := by decide +kernel
theorem dM_init_15 : decode cM_init 15 = .ok (.newarray .int, 2) := by decide +kernel
theorem dM_init_17 : decode cM_init 17 = .ok (.putfield 13, 3) := by decide +kernel
theorem dM_init_20 : decode cM_init 20 = .ok (.aload_n 0, 1) := by decide +kernel
theorem dM_init_21 : decode cM_init 21 = .ok (.iconst 5, 1) := by decide +kernel
theorem dM_init_22 : decode cM_init 22 = .ok (.newarray .int, 2) := by decide +kernel
theorem dM_init_24 : decode cM_init 24 = .ok (.putfield 16, 3) := by decide +kernel
theorem dM_init_27 : decode cM_init 27 = .ok (.aload_n 0, 1) := by decide +kernel
theorem dM_init_28 : decode cM_init 28 = .ok (.iconst 5, 1) := by decide +kernel
theorem dM_init_29 : decode cM_init 29 = .ok (.newarray .int, 2) := by decide +kernel
theorem dM_init_31 : decode cM_init 31 = .ok (.putfield 19, 3) := by decide +kernel
theorem dM_init_34 : decode cM_init 34 = .ok (.aload_n 0, 1) := by decide +kernel
theorem dM_init_35 : decode cM_init 35 = .ok (.iconst 5, 1) := by decide +kernel
theorem dM_init_36 : decode cM_init 36 = .ok (.newarray .int, 2) := by decide +kernel
theorem dM_init_38 : decode cM_init 38 = .ok (.putfield 22, 3) := by decide +kernel
theorem dM_init_41 : decode cM_init 41 = .ok (.aload_n 0, 1) := by decide +kernel
theorem dM_init_42 : decode cM_init 42 = .ok (.iconst 5, 1) := by decide +kernel
theorem dM_init_43 : decode cM_init 43 = .ok (.newarray .int, 2) := by decide +kernel
theorem dM_init_45 : decode cM_init 45 = .ok (.putfield 25, 3) := by decide +kernel
theorem dM_init_48 : decode cM_init 48 = .ok (.aload_n 0, 1) := by decide +kernel
theorem dM_init_49 : decode cM_init 49 = .ok (.sipush 7400, 3) := by decide +kernel
theorem dM_init_52 : decode cM_init 52 = .ok (.newarray .int, 2) := by decide +kernel
theorem dM_init_54 : decode cM_init 54 = .ok (.putfield 28, 3) := by decide +kernel
theorem dM_init_57 : decode cM_init 57 = .ok (.aload_n 0, 1) := by decide +kernel
theorem dM_init_58 : decode cM_init 58 = .ok (.sipush 1480, 3) := by decide +kernel
theorem dM_init_61 : decode cM_init 61 = .ok (.newarray .int, 2) := by decide +kernel
theorem dM_init_63 : decode cM_init 63 = .ok (.putfield 31, 3) := by decide +kernel
theorem dM_init_66 : decode cM_init 66 = .ok (.return_, 1) := by decide +kernel
theorem dM_thrown_0 : decode cM_thrown 0 = .ok (.aload_n 0, 1) := by decide +kernel
theorem dM_thrown_1 : decode cM_thrown 1 = .ok (.getfield 34, 3) := by decide +kernel
theorem dM_thrown_4 : decode cM_thrown 4 = .ok (.ireturn, 1) := by decide +kernel
theorem dM_feed_0 : decode cM_feed 0 = .ok (.aload_n 0, 1) := by decide +kernel
theorem dM_feed_1 : decode cM_feed 1 = .ok (.iload_n 3, 1) := by decide +kernel
theorem dM_feed_2 : decode cM_feed 2 = .ok (.iconst 1, 1) := by decide +kernel
theorem dM_feed_3 : decode cM_feed 3 = .ok (.if_icmp .lt 9, 3) := by decide +kernel
theorem dM_feed_6 : decode cM_feed 6 = .ok (.iload_n 3, 1) := by decide +kernel
theorem dM_feed_7 : decode cM_feed 7 = .ok (.bipush 8, 2) := by decide +kernel
theorem dM_feed_9 : decode cM_feed 9 = .ok (.if_icmp .le 7, 3) := by decide +kernel
theorem dM_feed_12 : decode cM_feed 12 = .ok (.iconst 1, 1) := by decide +kernel
theorem dM_feed_13 : decode cM_feed 13 = .ok (.goto 20, 3) := by decide +kernel
theorem dM_feed_16 : decode cM_feed 16 = .ok (.aload_n 0, 1) := by decide +kernel
theorem dM_feed_17 : decode cM_feed 17 = .ok (.getfield 38, 3) := by decide +kernel
theorem dM_feed_20 : decode cM_feed 20 = .ok (.iload_n 3, 1) := by decide +kernel
theorem dM_feed_21 : decode cM_feed 21 = .ok (.iadd, 1) := by decide +kernel
theorem dM_feed_22 : decode cM_feed 22 = .ok (.sipush 1480, 3) := by decide +kernel
theorem dM_feed_25 : decode cM_feed 25 = .ok (.if_icmp .le 7, 3) := by decide +kernel
theorem dM_feed_28 : decode cM_feed 28 = .ok (.iconst 2, 1) := by decide +kernel
theorem dM_feed_29 : decode cM_feed 29 = .ok (.goto 4, 3) := by decide +kernel
theorem dM_feed_32 : decode cM_feed 32 = .ok (.iconst 0, 1) := by decide +kernel
theorem dM_feed_33 : decode cM_feed 33 = .ok (.putfield 34, 3) := by decide +kernel
theorem dM_feed_36 : decode cM_feed 36 = .ok (.aload_n 0, 1) := by decide +kernel
theorem dM_feed_37 : decode cM_feed 37 = .ok (.getfield 34, 3) := by decide +kernel
theorem dM_feed_40 : decode cM_feed 40 = .ok (.ifCond .le 5, 3) := by decide +kernel
theorem dM_feed_43 : decode cM_feed 43 = .ok (.iconst 0, 1) := by decide +kernel
theorem dM_feed_44 : decode cM_feed 44 = .ok (.ireturn, 1) := by decide +kernel
theorem dM_feed_45 : decode cM_feed 45 = .ok (.iload_n 3, 1) := by decide +kernel
theorem dM_feed_46 : decode cM_feed 46 = .ok (.iconst 1, 1) := by decide +kernel
theorem dM_feed_47 : decode cM_feed 47 = .ok (.isub, 1) := by decide +kernel
theorem dM_feed_48 : decode cM_feed 48 = .ok (.istore 4, 2) := by decide +kernel
theorem dM_feed_50 : decode cM_feed 50 = .ok (.iload 4, 2) := by decide +kernel
theorem dM_feed_52 : decode cM_feed 52 = .ok (.ifCond .lt 40, 3) := by decide +kernel
theorem dM_feed_55 : decode cM_feed 55 = .ok (.aload_n 0, 1) := by decide +kernel
theorem dM_feed_56 : decode cM_feed 56 = .ok (.getfield 7, 3) := by decide +kernel
theorem dM_feed_59 : decode cM_feed 59 = .ok (.aload_n 0, 1) := by decide +kernel
theorem dM_feed_60 : decode cM_feed 60 = .ok (.getfield 38, 3) := by decide +kernel
theorem dM_feed_63 : decode cM_feed 63 = .ok (.lload_n 1, 1) := by decide +kernel
theorem dM_feed_64 : decode cM_feed 64 = .ok (.bipush 8, 2) := by decide +kernel
theorem dM_feed_66 : decode cM_feed 66 = .ok (.iload 4, 2) := by decide +kernel
theorem dM_feed_68 : decode cM_feed 68 = .ok (.imul, 1) := by decide +kernel
theorem dM_feed_69 : decode cM_feed 69 = .ok (.lshr, 1) := by decide +kernel
theorem dM_feed_70 : decode cM_feed 70 = .ok (.ldc2_w 41, 3) := by decide +kernel
theorem dM_feed_73 : decode cM_feed 73 = .ok (.land, 1) := by decide +kernel
theorem dM_feed_74 : decode cM_feed 74 = .ok (.l2i, 1) := by decide +kernel
theorem dM_feed_75 : decode cM_feed 75 = .ok (.iastore, 1) := by decide +kernel
theorem dM_feed_76 : decode cM_feed 76 = .ok (.aload_n 0, 1) := by decide +kernel
theorem dM_feed_77 : decode cM_feed 77 = .ok (.dup, 1) := by decide +kernel
theorem dM_feed_78 : decode cM_feed 78 = .ok (.getfield 38, 3) := by decide +kernel
theorem dM_feed_81 : decode cM_feed 81 = .ok (.iconst 1, 1) := by decide +kernel
theorem dM_feed_82 : decode cM_feed 82 = .ok (.iadd, 1) := by decide +kernel
theorem dM_feed_83 : decode cM_feed 83 = .ok (.putfield 38, 3) := by decide +kernel
theorem dM_feed_86 : decode cM_feed 86 = .ok (.iinc 4 (-1), 3) := by decide +kernel
theorem dM_feed_89 : decode cM_feed 89 = .ok (.goto (-39), 3) := by decide +kernel
theorem dM_feed_92 : decode cM_feed 92 = .ok (.aload_n 0, 1) := by decide +kernel
theorem dM_feed_93 : decode cM_feed 93 = .ok (.getfield 38, 3) := by decide +kernel
theorem dM_feed_96 : decode cM_feed 96 = .ok (.ireturn, 1) := by decide +kernel
theorem dM_find_0 : decode cM_find 0 = .ok (.iconst (-1), 1) := by decide +kernel
theorem dM_find_1 : decode cM_find 1 = .ok (.istore 4, 2) := by decide +kernel
theorem dM_find_3 : decode cM_find 3 = .ok (.iconst 0, 1) := by decide +kernel
theorem dM_find_4 : decode cM_find 4 = .ok (.istore 5, 2) := by decide +kernel
theorem dM_find_6 : decode cM_find 6 = .ok (.iload 5, 2) := by decide +kernel
theorem dM_find_8 : decode cM_find 8 = .ok (.aload_n 0, 1) := by decide +kernel
theorem dM_find_9 : decode cM_find 9 = .ok (.getfield 43, 3) := by decide +kernel
theorem dM_find_12 : decode cM_find 12 = .ok (.if_icmp .ge 51, 3) := by decide +kernel
theorem dM_find_15 : decode cM_find 15 = .ok (.aload_n 0, 1) := by decide +kernel
theorem dM_find_16 : decode cM_find 16 = .ok (.getfield 13, 3) := by decide +kernel
theorem dM_find_19 : decode cM_find 19 = .ok (.iload 5, 2) := by decide +kernel
theorem dM_find_21 : decode cM_find 21 = .ok (.iaload, 1) := by decide +kernel
theorem dM_find_22 : decode cM_find 22 = .ok (.iload_n 1, 1) := by decide +kernel
theorem dM_find_23 : decode cM_find 23 = .ok (.if_icmp .ne 30, 3) := by decide +kernel
theorem dM_find_26 : decode cM_find 26 = .ok (.aload_n 0, 1) := by decide +kernel
theorem dM_find_27 : decode cM_find 27 = .ok (.getfield 16, 3) := by decide +kernel
theorem dM_find_30 : decode cM_find 30 = .ok (.iload 5, 2) := by decide +kernel
theorem dM_find_32 : decode cM_find 32 = .ok (.iaload, 1) := by decide +kernel
theorem dM_find_33 : decode cM_find 33 = .ok (.iload_n 2, 1) := by decide +kernel
theorem dM_find_34 : decode cM_find 34 = .ok (.if_icmp .ne 19, 3) := by decide +kernel
theorem dM_find_37 : decode cM_find 37 = .ok (.aload_n 0, 1) := by decide +kernel
theorem dM_find_38 : decode cM_find 38 = .ok (.getfield 19, 3) := by decide +kernel
theorem dM_find_41 : decode cM_find 41 = .ok (.iload 5, 2) := by decide +kernel
theorem dM_find_43 : decode cM_find 43 = .ok (.iaload, 1) := by decide +kernel
theorem dM_find_44 : decode cM_find 44 = .ok (.iload_n 3, 1) := by decide +kernel
theorem dM_find_45 : decode cM_find 45 = .ok (.if_icmp .ne 8, 3) := by decide +kernel
theorem dM_find_48 : decode cM_find 48 = .ok (.iload 5, 2) := by decide +kernel
theorem dM_find_50 : decode cM_find 50 = .ok (.goto 5, 3) := by decide +kernel
theorem dM_find_53 : decode cM_find 53 = .ok (.iload 4, 2) := by decide +kernel
theorem dM_find_55 : decode cM_find 55 = .ok (.istore 4, 2) := by decide +kernel
theorem dM_find_57 : decode cM_find 57 = .ok (.iinc 5 1, 3) := by decide +kernel
theorem dM_find_60 : decode cM_find 60 = .ok (.goto (-54), 3) := by decide +kernel
theorem dM_find_63 : decode cM_find 63 = .ok (.iload 4, 2) := by decide +kernel
theorem dM_find_65 : decode cM_find 65 = .ok (.ireturn, 1) := by decide +kernel
theorem dM_forget_0 : decode cM_forget 0 = .ok (.aload_n 0, 1) := by decide +kernel
theorem dM_forget_1 : decode cM_forget 1 = .ok (.dup, 1) := by decide +kernel
theorem dM_forget_2 : decode cM_forget 2 = .ok (.getfield 43, 3) := by decide +kernel
theorem dM_forget_5 : decode cM_forget 5 = .ok (.iconst 1, 1) := by decide +kernel
theorem dM_forget_6 : decode cM_forget 6 = .ok (.isub, 1) := by decide +kernel
theorem dM_forget_7 : decode cM_forget 7 = .ok (.putfield 43, 3) := by decide +kernel
theorem dM_forget_10 : decode cM_forget 10 = .ok (.iload_n 1, 1) := by decide +kernel
theorem dM_forget_11 : decode cM_forget 11 = .ok (.istore_n 2, 1) := by decide +kernel
theorem dM_forget_12 : decode cM_forget 12 = .ok (.iload_n 2, 1) := by decide +kernel
theorem dM_forget_13 : decode cM_forget 13 = .ok (.aload_n 0, 1) := by decide +kernel
theorem dM_forget_14 : decode cM_forget 14 = .ok (.getfield 43, 3) := by decide +kernel
theorem dM_forget_17 : decode cM_forget 17 = .ok (.if_icmp .ge 122, 3) := by decide +kernel
theorem dM_forget_20 : decode cM_forget 20 = .ok (.aload_n 0, 1) := by decide +kernel
theorem dM_forget_21 : decode cM_forget 21 = .ok (.getfield 13, 3) := by decide +kernel
theorem dM_forget_24 : decode cM_forget 24 = .ok (.iload_n 2, 1) := by decide +kernel
theorem dM_forget_25 : decode cM_forget 25 = .ok (.aload_n 0, 1) := by decide +kernel
theorem dM_forget_26 : decode cM_forget 26 = .ok (.getfield 13, 3) := by decide +kernel
theorem dM_forget_29 : decode cM_forget 29 = .ok (.iload_n 2, 1) := by decide +kernel
theorem dM_forget_30 : decode cM_forget 30 = .ok (.iconst 1, 1) := by decide +kernel
theorem dM_forget_31 : decode cM_forget 31 = .ok (.iadd, 1) := by decide +kernel
theorem dM_forget_32 : decode cM_forget 32 = .ok (.iaload, 1) := by decide +kernel
theorem dM_forget_33 : decode cM_forget 33 = .ok (.iastore, 1) := by decide +kernel
theorem dM_forget_34 : decode cM_forget 34 = .ok (.aload_n 0, 1) := by decide +kernel
theorem dM_forget_35 : decode cM_forget 35 = .ok (.getfield 16, 3) := by decide +kernel
theorem dM_forget_38 : decode cM_forget 38 = .ok (.iload_n 2, 1) := by decide +kernel
theorem dM_forget_39 : decode cM_forget 39 = .ok (.aload_n 0, 1) := by decide +kernel
theorem dM_forget_40 : decode cM_forget 40 = .ok (.getfield 16, 3) := by decide +kernel
theorem dM_forget_43 : decode cM_forget 43 = .ok (.iload_n 2, 1) := by decide +kernel
theorem dM_forget_44 : decode cM_forget 44 = .ok (.iconst 1, 1) := by decide +kernel
theorem dM_forget_45 : decode cM_forget 45 = .ok (.iadd, 1) := by decide +kernel
theorem dM_forget_46 : decode cM_forget 46 = .ok (.iaload, 1) := by decide +kernel
theorem dM_forget_47 : decode cM_forget 47 = .ok (.iastore, 1) := by decide +kernel
theorem dM_forget_48 : decode cM_forget 48 = .ok (.aload_n 0, 1) := by decide +kernel
theorem dM_forget_49 : decode cM_forget 49 = .ok (.getfield 19, 3) := by decide +kernel
theorem dM_forget_52 : decode cM_forget 52 = .ok (.iload_n 2, 1) := by decide +kernel
theorem dM_forget_53 : decode cM_forget 53 = .ok (.aload_n 0, 1) := by decide +kernel
theorem dM_forget_54 : decode cM_forget 54 = .ok (.getfield 19, 3) := by decide +kernel
theorem dM_forget_57 : decode cM_forget 57 = .ok (.iload_n 2, 1) := by decide +kernel
theorem dM_forget_58 : decode cM_forget 58 = .ok (.iconst 1, 1) := by decide +kernel
theorem dM_forget_59 : decode cM_forget 59 = .ok (.iadd, 1) := by decide +kernel
theorem dM_forget_60 : decode cM_forget 60 = .ok (.iaload, 1) := by decide +kernel
theorem dM_forget_61 : decode cM_forget 61 = .ok (.iastore, 1) := by decide +kernel
theorem dM_forget_62 : decode cM_forget 62 = .ok (.aload_n 0, 1) := by decide +kernel
theorem dM_forget_63 : decode cM_forget 63 = .ok (.getfield 22, 3) := by decide +kernel
theorem dM_forget_66 : decode cM_forget 66 = .ok (.iload_n 2, 1) := by decide +kernel
theorem dM_forget_67 : decode cM_forget 67 = .ok (.aload_n 0, 1) := by decide +kernel
theorem dM_forget_68 : decode cM_forget 68 = .ok (.getfield 22, 3) := by decide +kernel
theorem dM_forget_71 : decode cM_forget 71 = .ok (.iload_n 2, 1) := by decide +kernel
theorem dM_forget_72 : decode cM_forget 72 = .ok (.iconst 1, 1) := by decide +kernel
theorem dM_forget_73 : decode cM_forget 73 = .ok (.iadd, 1) := by decide +kernel
theorem dM_forget_74 : decode cM_forget 74 = .ok (.iaload, 1) := by decide +kernel
theorem dM_forget_75 : decode cM_forget 75 = .ok (.iastore, 1) := by decide +kernel
theorem dM_forget_76 : decode cM_forget 76 = .ok (.aload_n 0, 1) := by decide +kernel
theorem dM_forget_77 : decode cM_forget 77 = .ok (.getfield 25, 3) := by decide +kernel
theorem dM_forget_80 : decode cM_forget 80 = .ok (.iload_n 2, 1) := by decide +kernel
theorem dM_forget_81 : decode cM_forget 81 = .ok (.aload_n 0, 1) := by decide +kernel
theorem dM_forget_82 : decode cM_forget 82 = .ok (.getfield 25, 3) := by decide +kernel
theorem dM_forget_85 : decode cM_forget 85 = .ok (.iload_n 2, 1) := by decide +kernel
theorem dM_forget_86 : decode cM_forget 86 = .ok (.iconst 1, 1) := by decide +kernel
theorem dM_forget_87 : decode cM_forget 87 = .ok (.iadd, 1) := by decide +kernel
theorem dM_forget_88 : decode cM_forget 88 = .ok (.iaload, 1) := by decide +kernel
theorem dM_forget_89 : decode cM_forget 89 = .ok (.iastore, 1) := by decide +kernel
theorem dM_forget_90 : decode cM_forget 90 = .ok (.iconst 0, 1) := by decide +kernel
theorem dM_forget_91 : decode cM_forget 91 = .ok (.istore_n 3, 1) := by decide +kernel
theorem dM_forget_92 : decode cM_forget 92 = .ok (.iload_n 3, 1) := by decide +kernel
theorem dM_forget_93 : decode cM_forget 93 = .ok (.sipush 1480, 3) := by decide +kernel
theorem dM_forget_96 : decode cM_forget 96 = .ok (.if_icmp .ge 37, 3) := by decide +kernel
theorem dM_forget_99 : decode cM_forget 99 = .ok (.aload_n 0, 1) := by decide +kernel
theorem dM_forget_100 : decode cM_forget 100 = .ok (.getfield 28, 3) := by decide +kernel
theorem dM_forget_103 : decode cM_forget 103 = .ok (.sipush 1480, 3) := by decide +kernel
theorem dM_forget_106 : decode cM_forget 106 = .ok (.iload_n 2, 1) := by decide +kernel
theorem dM_forget_107 : decode cM_forget 107 = .ok (.imul, 1) := by decide +kernel
theorem dM_forget_108 : decode cM_forget 108 = .ok (.iload_n 3, 1) := by decide +kernel
theorem dM_forget_109 : decode cM_forget 109 = .ok (.iadd, 1) := by decide +kernel
theorem dM_forget_110 : decode cM_forget 110 = .ok (.aload_n 0, 1) := by decide +kernel
theorem dM_forget_111 : decode cM_forget 111 = .ok (.getfield 28, 3) := by decide +kernel
theorem dM_forget_114 : decode cM_forget 114 = .ok (.sipush 1480, 3) := by decide +kernel
theorem dM_forget_117 : decode cM_forget 117 = .ok (.iload_n 2, 1) := by decide +kernel
theorem dM_forget_118 : decode cM_forget 118 = .ok (.imul, 1) := by decide +kernel
theorem dM_forget_119 : decode cM_forget 119 = .ok (.sipush 1480, 3) := by decide +kernel
theorem dM_forget_122 : decode cM_forget 122 = .ok (.iadd, 1) := by decide +kernel
theorem dM_forget_123 : decode cM_forget 123 = .ok (.iload_n 3, 1) := by decide +kernel
theorem dM_forget_124 : decode cM_forget 124 = .ok (.iadd, 1) := by decide +kernel
theorem dM_forget_125 : decode cM_forget 125 = .ok (.iaload, 1) := by decide +kernel
theorem dM_forget_126 : decode cM_forget 126 = .ok (.iastore, 1) := by decide +kernel
theorem dM_forget_127 : decode cM_forget 127 = .ok (.iinc 3 1, 3) := by decide +kernel
theorem dM_forget_130 : decode cM_forget 130 = .ok (.goto (-38), 3) := by decide +kernel
theorem dM_forget_133 : decode cM_forget 133 = .ok (.iinc 2 1, 3) := by decide +kernel
theorem dM_forget_136 : decode cM_forget 136 = .ok (.goto (-124), 3) := by decide +kernel
theorem dM_forget_139 : decode cM_forget 139 = .ok (.return_, 1) := by decide +kernel
theorem dM_lacks_0 : decode cM_lacks 0 = .ok (.iconst 0, 1) := by decide +kernel
theorem dM_lacks_1 : decode cM_lacks 1 = .ok (.istore_n 2, 1) := by decide +kernel
theorem dM_lacks_2 : decode cM_lacks 2 = .ok (.iconst 0, 1) := by decide +kernel
theorem dM_lacks_3 : decode cM_lacks 3 = .ok (.istore_n 3, 1) := by decide +kernel
theorem dM_lacks_4 : decode cM_lacks 4 = .ok (.iload_n 3, 1) := by decide +kernel
theorem dM_lacks_5 : decode cM_lacks 5 = .ok (.aload_n 0, 1) := by decide +kernel
theorem dM_lacks_6 : decode cM_lacks 6 = .ok (.getfield 25, 3) := by decide +kernel
theorem dM_lacks_9 : decode cM_lacks 9 = .ok (.iload_n 1, 1) := by decide +kernel
theorem dM_lacks_10 : decode cM_lacks 10 = .ok (.iaload, 1) := by decide +kernel
theorem dM_lacks_11 : decode cM_lacks 11 = .ok (.if_icmp .ge 32, 3) := by decide +kernel
theorem dM_lacks_14 : decode cM_lacks 14 = .ok (.iload_n 2, 1) := by decide +kernel
theorem dM_lacks_15 : decode cM_lacks 15 = .ok (.aload_n 0, 1) := by decide +kernel
theorem dM_lacks_16 : decode cM_lacks 16 = .ok (.getfield 28, 3) := by decide +kernel
theorem dM_lacks_19 : decode cM_lacks 19 = .ok (.sipush 1480, 3) := by decide +kernel
theorem dM_lacks_22 : decode cM_lacks 22 = .ok (.iload_n 1, 1) := by decide +kernel
theorem dM_lacks_23 : decode cM_lacks 23 = .ok (.imul, 1) := by decide +kernel
theorem dM_lacks_24 : decode cM_lacks 24 = .ok (.iload_n 3, 1) := by decide +kernel
theorem dM_lacks_25 : decode cM_lacks 25 = .ok (.iadd, 1) := by decide +kernel
theorem dM_lacks_26 : decode cM_lacks 26 = .ok (.iaload, 1) := by decide +kernel
theorem dM_lacks_27 : decode cM_lacks 27 = .ok (.ifCond .ge 7, 3) := by decide +kernel
theorem dM_lacks_30 : decode cM_lacks 30 = .ok (.iconst 1, 1) := by decide +kernel
theorem dM_lacks_31 : decode cM_lacks 31 = .ok (.goto 4, 3) := by decide +kernel
theorem dM_lacks_34 : decode cM_lacks 34 = .ok (.iconst 0, 1) := by decide +kernel
theorem dM_lacks_35 : decode cM_lacks 35 = .ok (.iadd, 1) := by decide +kernel
theorem dM_lacks_36 : decode cM_lacks 36 = .ok (.istore_n 2, 1) := by decide +kernel
theorem dM_lacks_37 : decode cM_lacks 37 = .ok (.iinc 3 1, 3) := by decide +kernel
theorem dM_lacks_40 : decode cM_lacks 40 = .ok (.goto (-36), 3) := by decide +kernel
theorem dM_lacks_43 : decode cM_lacks 43 = .ok (.iload_n 2, 1) := by decide +kernel
theorem dM_lacks_44 : decode cM_lacks 44 = .ok (.ireturn, 1) := by decide +kernel
theorem dM_begin_0 : decode cM_begin 0 = .ok (.aload_n 0, 1) := by decide +kernel
theorem dM_begin_1 : decode cM_begin 1 = .ok (.getfield 43, 3) := by decide +kernel
theorem dM_begin_4 : decode cM_begin 4 = .ok (.iconst 4, 1) := by decide +kernel
theorem dM_begin_5 : decode cM_begin 5 = .ok (.if_icmp .ne 8, 3) := by decide +kernel
theorem dM_begin_8 : decode cM_begin 8 = .ok (.aload_n 0, 1) := by decide +kernel
theorem dM_begin_9 : decode cM_begin 9 = .ok (.iconst 0, 1) := by decide +kernel
theorem dM_begin_10 : decode cM_begin 10 = .ok (.invokevirtual 46, 3) := by decide +kernel
theorem dM_begin_13 : decode cM_begin 13 = .ok (.aload_n 0, 1) := by decide +kernel
theorem dM_begin_14 : decode cM_begin 14 = .ok (.getfield 13, 3) := by decide +kernel
theorem dM_begin_17 : decode cM_begin 17 = .ok (.aload_n 0, 1) := by decide +kernel
theorem dM_begin_18 : decode cM_begin 18 = .ok (.getfield 43, 3) := by decide +kernel
theorem dM_begin_21 : decode cM_begin 21 = .ok (.iload_n 1, 1) := by decide +kernel
theorem dM_begin_22 : decode cM_begin 22 = .ok (.iastore, 1) := by decide +kernel
theorem dM_begin_23 : decode cM_begin 23 = .ok (.aload_n 0, 1) := by decide +kernel
theorem dM_begin_24 : decode cM_begin 24 = .ok (.getfield 16, 3) := by decide +kernel
theorem dM_begin_27 : decode cM_begin 27 = .ok (.aload_n 0, 1) := by decide +kernel
theorem dM_begin_28 : decode cM_begin 28 = .ok (.getfield 43, 3) := by decide +kernel
theorem dM_begin_31 : decode cM_begin 31 = .ok (.iload_n 2, 1) := by decide +kernel
theorem dM_begin_32 : decode cM_begin 32 = .ok (.iastore, 1) := by decide +kernel
theorem dM_begin_33 : decode cM_begin 33 = .ok (.aload_n 0, 1) := by decide +kernel
theorem dM_begin_34 : decode cM_begin 34 = .ok (.getfield 19, 3) := by decide +kernel
theorem dM_begin_37 : decode cM_begin 37 = .ok (.aload_n 0, 1) := by decide +kernel
theorem dM_begin_38 : decode cM_begin 38 = .ok (.getfield 43, 3) := by decide +kernel
theorem dM_begin_41 : decode cM_begin 41 = .ok (.iload_n 3, 1) := by decide +kernel
theorem dM_begin_42 : decode cM_begin 42 = .ok (.iastore, 1) := by decide +kernel
theorem dM_begin_43 : decode cM_begin 43 = .ok (.aload_n 0, 1) := by decide +kernel
theorem dM_begin_44 : decode cM_begin 44 = .ok (.getfield 22, 3) := by decide +kernel
theorem dM_begin_47 : decode cM_begin 47 = .ok (.aload_n 0, 1) := by decide +kernel
theorem dM_begin_48 : decode cM_begin 48 = .ok (.getfield 43, 3) := by decide +kernel
theorem dM_begin_51 : decode cM_begin 51 = .ok (.aload_n 0, 1) := by decide +kernel
theorem dM_begin_52 : decode cM_begin 52 = .ok (.getfield 50, 3) := by decide +kernel
theorem dM_begin_55 : decode cM_begin 55 = .ok (.iastore, 1) := by decide +kernel
theorem dM_begin_56 : decode cM_begin 56 = .ok (.aload_n 0, 1) := by decide +kernel
theorem dM_begin_57 : decode cM_begin 57 = .ok (.getfield 25, 3) := by decide +kernel
theorem dM_begin_60 : decode cM_begin 60 = .ok (.aload_n 0, 1) := by decide +kernel
theorem dM_begin_61 : decode cM_begin 61 = .ok (.getfield 43, 3) := by decide +kernel
theorem dM_begin_64 : decode cM_begin 64 = .ok (.iload 4, 2) := by decide +kernel
theorem dM_begin_66 : decode cM_begin 66 = .ok (.iastore, 1) := by decide +kernel
theorem dM_begin_67 : decode cM_begin 67 = .ok (.iconst 0, 1) := by decide +kernel
theorem dM_begin_68 : decode cM_begin 68 = .ok (.istore 5, 2) := by decide +kernel
theorem dM_begin_70 : decode cM_begin 70 = .ok (.iload 5, 2) := by decide +kernel
theorem dM_begin_72 : decode cM_begin 72 = .ok (.sipush 1480, 3) := by decide +kernel
theorem dM_begin_75 : decode cM_begin 75 = .ok (.if_icmp .ge 26, 3) := by decide +kernel
theorem dM_begin_78 : decode cM_begin 78 = .ok (.aload_n 0, 1) := by decide +kernel
theorem dM_begin_79 : decode cM_begin 79 = .ok (.getfield 28, 3) := by decide +kernel
theorem dM_begin_82 : decode cM_begin 82 = .ok (.sipush 1480, 3) := by decide +kernel
theorem dM_begin_85 : decode cM_begin 85 = .ok (.aload_n 0, 1) := by decide +kernel
theorem dM_begin_86 : decode cM_begin 86 = .ok (.getfield 43, 3) := by decide +kernel
theorem dM_begin_89 : decode cM_begin 89 = .ok (.imul, 1) := by decide +kernel
theorem dM_begin_90 : decode cM_begin 90 = .ok (.iload 5, 2) := by decide +kernel
theorem dM_begin_92 : decode cM_begin 92 = .ok (.iadd, 1) := by decide +kernel
theorem dM_begin_93 : decode cM_begin 93 = .ok (.iconst (-1), 1) := by decide +kernel
theorem dM_begin_94 : decode cM_begin 94 = .ok (.iastore, 1) := by decide +kernel
theorem dM_begin_95 : decode cM_begin 95 = .ok (.iinc 5 1, 3) := by decide +kernel
theorem dM_begin_98 : decode cM_begin 98 = .ok (.goto (-28), 3) := by decide +kernel
theorem dM_begin_101 : decode cM_begin 101 = .ok (.aload_n 0, 1) := by decide +kernel
theorem dM_begin_102 : decode cM_begin 102 = .ok (.dup, 1) := by decide +kernel
theorem dM_begin_103 : decode cM_begin 103 = .ok (.getfield 43, 3) := by decide +kernel
theorem dM_begin_106 : decode cM_begin 106 = .ok (.iconst 1, 1) := by decide +kernel
theorem dM_begin_107 : decode cM_begin 107 = .ok (.iadd, 1) := by decide +kernel
theorem dM_begin_108 : decode cM_begin 108 = .ok (.putfield 43, 3) := by decide +kernel
theorem dM_begin_111 : decode cM_begin 111 = .ok (.return_, 1) := by decide +kernel
theorem dM_finish_0 : decode cM_finish 0 = .ok (.aload_n 0, 1) := by decide +kernel
theorem dM_finish_1 : decode cM_finish 1 = .ok (.iconst 1, 1) := by decide +kernel
theorem dM_finish_2 : decode cM_finish 2 = .ok (.putfield 53, 3) := by decide +kernel
theorem dM_finish_5 : decode cM_finish 5 = .ok (.aload_n 0, 1) := by decide +kernel
theorem dM_finish_6 : decode cM_finish 6 = .ok (.aload_n 0, 1) := by decide +kernel
theorem dM_finish_7 : decode cM_finish 7 = .ok (.getfield 13, 3) := by decide +kernel
theorem dM_finish_10 : decode cM_finish 10 = .ok (.iload_n 1, 1) := by decide +kernel
theorem dM_finish_11 : decode cM_finish 11 = .ok (.iaload, 1) := by decide +kernel
theorem dM_finish_12 : decode cM_finish 12 = .ok (.putfield 57, 3) := by decide +kernel
theorem dM_finish_15 : decode cM_finish 15 = .ok (.aload_n 0, 1) := by decide +kernel
theorem dM_finish_16 : decode cM_finish 16 = .ok (.aload_n 0, 1) := by decide +kernel
theorem dM_finish_17 : decode cM_finish 17 = .ok (.getfield 16, 3) := by decide +kernel
theorem dM_finish_20 : decode cM_finish 20 = .ok (.iload_n 1, 1) := by decide +kernel
theorem dM_finish_21 : decode cM_finish 21 = .ok (.iaload, 1) := by decide +kernel
theorem dM_finish_22 : decode cM_finish 22 = .ok (.putfield 60, 3) := by decide +kernel
theorem dM_finish_25 : decode cM_finish 25 = .ok (.aload_n 0, 1) := by decide +kernel
theorem dM_finish_26 : decode cM_finish 26 = .ok (.aload_n 0, 1) := by decide +kernel
theorem dM_finish_27 : decode cM_finish 27 = .ok (.getfield 19, 3) := by decide +kernel
theorem dM_finish_30 : decode cM_finish 30 = .ok (.iload_n 1, 1) := by decide +kernel
theorem dM_finish_31 : decode cM_finish 31 = .ok (.iaload, 1) := by decide +kernel
theorem dM_finish_32 : decode cM_finish 32 = .ok (.putfield 63, 3) := by decide +kernel
theorem dM_finish_35 : decode cM_finish 35 = .ok (.aload_n 0, 1) := by decide +kernel
theorem dM_finish_36 : decode cM_finish 36 = .ok (.aload_n 0, 1) := by decide +kernel
theorem dM_finish_37 : decode cM_finish 37 = .ok (.getfield 25, 3) := by decide +kernel
theorem dM_finish_40 : decode cM_finish 40 = .ok (.iload_n 1, 1) := by decide +kernel
theorem dM_finish_41 : decode cM_finish 41 = .ok (.iaload, 1) := by decide +kernel
theorem dM_finish_42 : decode cM_finish 42 = .ok (.putfield 66, 3) := by decide +kernel
theorem dM_finish_45 : decode cM_finish 45 = .ok (.iconst 0, 1) := by decide +kernel
theorem dM_finish_46 : decode cM_finish 46 = .ok (.istore_n 2, 1) := by decide +kernel
theorem dM_finish_47 : decode cM_finish 47 = .ok (.iload_n 2, 1) := by decide +kernel
theorem dM_finish_48 : decode cM_finish 48 = .ok (.aload_n 0, 1) := by decide +kernel
theorem dM_finish_49 : decode cM_finish 49 = .ok (.getfield 66, 3) := by decide +kernel
theorem dM_finish_52 : decode cM_finish 52 = .ok (.if_icmp .ge 27, 3) := by decide +kernel
theorem dM_finish_55 : decode cM_finish 55 = .ok (.aload_n 0, 1) := by decide +kernel
theorem dM_finish_56 : decode cM_finish 56 = .ok (.getfield 31, 3) := by decide +kernel
theorem dM_finish_59 : decode cM_finish 59 = .ok (.iload_n 2, 1) := by decide +kernel
theorem dM_finish_60 : decode cM_finish 60 = .ok (.aload_n 0, 1) := by decide +kernel
theorem dM_finish_61 : decode cM_finish 61 = .ok (.getfield 28, 3) := by decide +kernel
theorem dM_finish_64 : decode cM_finish 64 = .ok (.sipush 1480, 3) := by decide +kernel
theorem dM_finish_67 : decode cM_finish 67 = .ok (.iload_n 1, 1) := by decide +kernel
theorem dM_finish_68 : decode cM_finish 68 = .ok (.imul, 1) := by decide +kernel
theorem dM_finish_69 : decode cM_finish 69 = .ok (.iload_n 2, 1) := by decide +kernel
theorem dM_finish_70 : decode cM_finish 70 = .ok (.iadd, 1) := by decide +kernel
theorem dM_finish_71 : decode cM_finish 71 = .ok (.iaload, 1) := by decide +kernel
theorem dM_finish_72 : decode cM_finish 72 = .ok (.iastore, 1) := by decide +kernel
theorem dM_finish_73 : decode cM_finish 73 = .ok (.iinc 2 1, 3) := by decide +kernel
theorem dM_finish_76 : decode cM_finish 76 = .ok (.goto (-29), 3) := by decide +kernel
theorem dM_finish_79 : decode cM_finish 79 = .ok (.aload_n 0, 1) := by decide +kernel
theorem dM_finish_80 : decode cM_finish 80 = .ok (.iload_n 1, 1) := by decide +kernel
theorem dM_finish_81 : decode cM_finish 81 = .ok (.invokevirtual 46, 3) := by decide +kernel
theorem dM_finish_84 : decode cM_finish 84 = .ok (.return_, 1) := by decide +kernel
theorem dM_piece_0 : decode cM_piece 0 = .ok (.aload_n 0, 1) := by decide +kernel
theorem dM_piece_1 : decode cM_piece 1 = .ok (.iload 5, 2) := by decide +kernel
theorem dM_piece_3 : decode cM_piece 3 = .ok (.iconst 1, 1) := by decide +kernel
theorem dM_piece_4 : decode cM_piece 4 = .ok (.if_icmp .lt 16, 3) := by decide +kernel
theorem dM_piece_7 : decode cM_piece 7 = .ok (.iload 5, 2) := by decide +kernel
theorem dM_piece_9 : decode cM_piece 9 = .ok (.sipush 1480, 3) := by decide +kernel
theorem dM_piece_12 : decode cM_piece 12 = .ok (.if_icmp .gt 8, 3) := by decide +kernel
theorem dM_piece_15 : decode cM_piece 15 = .ok (.iload 4, 2) := by decide +kernel
theorem dM_piece_17 : decode cM_piece 17 = .ok (.ifCond .ge 7, 3) := by decide +kernel
theorem dM_piece_20 : decode cM_piece 20 = .ok (.iconst 1, 1) := by decide +kernel
theorem dM_piece_21 : decode cM_piece 21 = .ok (.goto 27, 3) := by decide +kernel
theorem dM_piece_24 : decode cM_piece 24 = .ok (.aload_n 0, 1) := by decide +kernel
theorem dM_piece_25 : decode cM_piece 25 = .ok (.getfield 38, 3) := by decide +kernel
theorem dM_piece_28 : decode cM_piece 28 = .ok (.ifCond .eq 15, 3) := by decide +kernel
theorem dM_piece_31 : decode cM_piece 31 = .ok (.iload 4, 2) := by decide +kernel
theorem dM_piece_33 : decode cM_piece 33 = .ok (.iload 5, 2) := by decide +kernel
theorem dM_piece_35 : decode cM_piece 35 = .ok (.aload_n 0, 1) := by decide +kernel
theorem dM_piece_36 : decode cM_piece 36 = .ok (.getfield 38, 3) := by decide +kernel
theorem dM_piece_39 : decode cM_piece 39 = .ok (.isub, 1) := by decide +kernel
theorem dM_piece_40 : decode cM_piece 40 = .ok (.if_icmp .le 7, 3) := by decide +kernel
theorem dM_piece_43 : decode cM_piece 43 = .ok (.iconst 2, 1) := by decide +kernel
theorem dM_piece_44 : decode cM_piece 44 = .ok (.goto 4, 3) := by decide +kernel
theorem dM_piece_47 : decode cM_piece 47 = .ok (.iconst 0, 1) := by decide +kernel
theorem dM_piece_48 : decode cM_piece 48 = .ok (.putfield 34, 3) := by decide +kernel
theorem dM_piece_51 : decode cM_piece 51 = .ok (.aload_n 0, 1) := by decide +kernel
theorem dM_piece_52 : decode cM_piece 52 = .ok (.getfield 34, 3) := by decide +kernel
theorem dM_piece_55 : decode cM_piece 55 = .ok (.ifCond .le 5, 3) := by decide +kernel
theorem dM_piece_58 : decode cM_piece 58 = .ok (.iconst 0, 1) := by decide +kernel
theorem dM_piece_59 : decode cM_piece 59 = .ok (.ireturn, 1) := by decide +kernel
theorem dM_piece_60 : decode cM_piece 60 = .ok (.aload_n 0, 1) := by decide +kernel
theorem dM_piece_61 : decode cM_piece 61 = .ok (.getfield 38, 3) := by decide +kernel
theorem dM_piece_64 : decode cM_piece 64 = .ok (.istore 6, 2) := by decide +kernel
theorem dM_piece_66 : decode cM_piece 66 = .ok (.aload_n 0, 1) := by decide +kernel
theorem dM_piece_67 : decode cM_piece 67 = .ok (.iconst 0, 1) := by decide +kernel
theorem dM_piece_68 : decode cM_piece 68 = .ok (.putfield 38, 3) := by decide +kernel
theorem dM_piece_71 : decode cM_piece 71 = .ok (.aload_n 0, 1) := by decide +kernel
theorem dM_piece_72 : decode cM_piece 72 = .ok (.iload_n 1, 1) := by decide +kernel
theorem dM_piece_73 : decode cM_piece 73 = .ok (.iload_n 2, 1) := by decide +kernel
theorem dM_piece_74 : decode cM_piece 74 = .ok (.iload_n 3, 1) := by decide +kernel
theorem dM_piece_75 : decode cM_piece 75 = .ok (.invokevirtual 69, 3) := by decide +kernel
theorem dM_piece_78 : decode cM_piece 78 = .ok (.istore 7, 2) := by decide +kernel
theorem dM_piece_80 : decode cM_piece 80 = .ok (.iload 7, 2) := by decide +kernel
theorem dM_piece_82 : decode cM_piece 82 = .ok (.ifCond .lt 17, 3) := by decide +kernel
theorem dM_piece_85 : decode cM_piece 85 = .ok (.aload_n 0, 1) := by decide +kernel
theorem dM_piece_86 : decode cM_piece 86 = .ok (.getfield 25, 3) := by decide +kernel
theorem dM_piece_89 : decode cM_piece 89 = .ok (.iload 7, 2) := by decide +kernel
theorem dM_piece_91 : decode cM_piece 91 = .ok (.iaload, 1) := by decide +kernel
theorem dM_piece_92 : decode cM_piece 92 = .ok (.iload 5, 2) := by decide +kernel
theorem dM_piece_94 : decode cM_piece 94 = .ok (.if_icmp .eq 5, 3) := by decide +kernel
theorem dM_piece_97 : decode cM_piece 97 = .ok (.iconst (-1), 1) := by decide +kernel
theorem dM_piece_98 : decode cM_piece 98 = .ok (.ireturn, 1) := by decide +kernel
theorem dM_piece_99 : decode cM_piece 99 = .ok (.iload 7, 2) := by decide +kernel
theorem dM_piece_101 : decode cM_piece 101 = .ok (.ifCond .ge 20, 3) := by decide +kernel
theorem dM_piece_104 : decode cM_piece 104 = .ok (.aload_n 0, 1) := by decide +kernel
theorem dM_piece_105 : decode cM_piece 105 = .ok (.iload_n 1, 1) := by decide +kernel
theorem dM_piece_106 : decode cM_piece 106 = .ok (.iload_n 2, 1) := by decide +kernel
theorem dM_piece_107 : decode cM_piece 107 = .ok (.iload_n 3, 1) := by decide +kernel
theorem dM_piece_108 : decode cM_piece 108 = .ok (.iload 5, 2) := by decide +kernel
theorem dM_piece_110 : decode cM_piece 110 = .ok (.invokevirtual 73, 3) := by decide +kernel
theorem dM_piece_113 : decode cM_piece 113 = .ok (.aload_n 0, 1) := by decide +kernel
theorem dM_piece_114 : decode cM_piece 114 = .ok (.getfield 43, 3) := by decide +kernel
theorem dM_piece_117 : decode cM_piece 117 = .ok (.iconst 1, 1) := by decide +kernel
theorem dM_piece_118 : decode cM_piece 118 = .ok (.isub, 1) := by decide +kernel
theorem dM_piece_119 : decode cM_piece 119 = .ok (.istore 7, 2) := by decide +kernel
theorem dM_piece_121 : decode cM_piece 121 = .ok (.iconst 0, 1) := by decide +kernel
theorem dM_piece_122 : decode cM_piece 122 = .ok (.istore 8, 2) := by decide +kernel
theorem dM_piece_124 : decode cM_piece 124 = .ok (.iload 8, 2) := by decide +kernel
theorem dM_piece_126 : decode cM_piece 126 = .ok (.iload 6, 2) := by decide +kernel
theorem dM_piece_128 : decode cM_piece 128 = .ok (.if_icmp .ge 57, 3) := by decide +kernel
theorem dM_piece_131 : decode cM_piece 131 = .ok (.sipush 1480, 3) := by decide +kernel
theorem dM_piece_134 : decode cM_piece 134 = .ok (.iload 7, 2) := by decide +kernel
theorem dM_piece_136 : decode cM_piece 136 = .ok (.imul, 1) := by decide +kernel
theorem dM_piece_137 : decode cM_piece 137 = .ok (.iload 4, 2) := by decide +kernel
theorem dM_piece_139 : decode cM_piece 139 = .ok (.iadd, 1) := by decide +kernel
theorem dM_piece_140 : decode cM_piece 140 = .ok (.iload 8, 2) := by decide +kernel
theorem dM_piece_142 : decode cM_piece 142 = .ok (.iadd, 1) := by decide +kernel
theorem dM_piece_143 : decode cM_piece 143 = .ok (.istore 9, 2) := by decide +kernel
theorem dM_piece_145 : decode cM_piece 145 = .ok (.aload_n 0, 1) := by decide +kernel
theorem dM_piece_146 : decode cM_piece 146 = .ok (.getfield 28, 3) := by decide +kernel
theorem dM_piece_149 : decode cM_piece 149 = .ok (.iload 9, 2) := by decide +kernel
theorem dM_piece_151 : decode cM_piece 151 = .ok (.aload_n 0, 1) := by decide +kernel
theorem dM_piece_152 : decode cM_piece 152 = .ok (.getfield 28, 3) := by decide +kernel
theorem dM_piece_155 : decode cM_piece 155 = .ok (.iload 9, 2) := by decide +kernel
theorem dM_piece_157 : decode cM_piece 157 = .ok (.iaload, 1) := by decide +kernel
theorem dM_piece_158 : decode cM_piece 158 = .ok (.ifCond .ge 13, 3) := by decide +kernel
theorem dM_piece_161 : decode cM_piece 161 = .ok (.aload_n 0, 1) := by decide +kernel
theorem dM_piece_162 : decode cM_piece 162 = .ok (.getfield 7, 3) := by decide +kernel
theorem dM_piece_165 : decode cM_piece 165 = .ok (.iload 8, 2) := by decide +kernel
theorem dM_piece_167 : decode cM_piece 167 = .ok (.iaload, 1) := by decide +kernel
theorem dM_piece_168 : decode cM_piece 168 = .ok (.goto 10, 3) := by decide +kernel
theorem dM_piece_171 : decode cM_piece 171 = .ok (.aload_n 0, 1) := by decide +kernel
theorem dM_piece_172 : decode cM_piece 172 = .ok (.getfield 28, 3) := by decide +kernel
theorem dM_piece_175 : decode cM_piece 175 = .ok (.iload 9, 2) := by decide +kernel
theorem dM_piece_177 : decode cM_piece 177 = .ok (.iaload, 1) := by decide +kernel
theorem dM_piece_178 : decode cM_piece 178 = .ok (.iastore, 1) := by decide +kernel
theorem dM_piece_179 : decode cM_piece 179 = .ok (.iinc 8 1, 3) := by decide +kernel
theorem dM_piece_182 : decode cM_piece 182 = .ok (.goto (-58), 3) := by decide +kernel
theorem dM_piece_185 : decode cM_piece 185 = .ok (.aload_n 0, 1) := by decide +kernel
theorem dM_piece_186 : decode cM_piece 186 = .ok (.iload 7, 2) := by decide +kernel
theorem dM_piece_188 : decode cM_piece 188 = .ok (.invokevirtual 77, 3) := by decide +kernel
theorem dM_piece_191 : decode cM_piece 191 = .ok (.ifCond .le 5, 3) := by decide +kernel
theorem dM_piece_194 : decode cM_piece 194 = .ok (.iconst 0, 1) := by decide +kernel
theorem dM_piece_195 : decode cM_piece 195 = .ok (.ireturn, 1) := by decide +kernel
theorem dM_piece_196 : decode cM_piece 196 = .ok (.aload_n 0, 1) := by decide +kernel
theorem dM_piece_197 : decode cM_piece 197 = .ok (.iload 7, 2) := by decide +kernel
theorem dM_piece_199 : decode cM_piece 199 = .ok (.invokevirtual 81, 3) := by decide +kernel
theorem dM_piece_202 : decode cM_piece 202 = .ok (.iconst 1, 1) := by decide +kernel
theorem dM_piece_203 : decode cM_piece 203 = .ok (.ireturn, 1) := by decide +kernel
theorem dM_pass_0 : decode cM_pass 0 = .ok (.aload_n 0, 1) := by decide +kernel
theorem dM_pass_1 : decode cM_pass 1 = .ok (.iload_n 1, 1) := by decide +kernel
theorem dM_pass_2 : decode cM_pass 2 = .ok (.ifCond .lt 9, 3) := by decide +kernel
theorem dM_pass_5 : decode cM_pass 5 = .ok (.iload_n 1, 1) := by decide +kernel
theorem dM_pass_6 : decode cM_pass 6 = .ok (.ldc 84, 2) := by decide +kernel
theorem dM_pass_8 : decode cM_pass 8 = .ok (.if_icmp .le 7, 3) := by decide +kernel
theorem dM_pass_11 : decode cM_pass 11 = .ok (.iconst 1, 1) := by decide +kernel
theorem dM_pass_12 : decode cM_pass 12 = .ok (.goto 19, 3) := by decide +kernel
theorem dM_pass_15 : decode cM_pass 15 = .ok (.aload_n 0, 1) := by decide +kernel
theorem dM_pass_16 : decode cM_pass 16 = .ok (.getfield 50, 3) := by decide +kernel
theorem dM_pass_19 : decode cM_pass 19 = .ok (.iload_n 1, 1) := by decide +kernel
theorem dM_pass_20 : decode cM_pass 20 = .ok (.iadd, 1) := by decide +kernel
theorem dM_pass_21 : decode cM_pass 21 = .ok (.ldc 85, 2) := by decide +kernel
theorem dM_pass_23 : decode cM_pass 23 = .ok (.if_icmp .le 7, 3) := by decide +kernel
theorem dM_pass_26 : decode cM_pass 26 = .ok (.iconst 2, 1) := by decide +kernel
theorem dM_pass_27 : decode cM_pass 27 = .ok (.goto 4, 3) := by decide +kernel
theorem dM_pass_30 : decode cM_pass 30 = .ok (.iconst 0, 1) := by decide +kernel
theorem dM_pass_31 : decode cM_pass 31 = .ok (.putfield 34, 3) := by decide +kernel
theorem dM_pass_34 : decode cM_pass 34 = .ok (.aload_n 0, 1) := by decide +kernel
theorem dM_pass_35 : decode cM_pass 35 = .ok (.getfield 34, 3) := by decide +kernel
theorem dM_pass_38 : decode cM_pass 38 = .ok (.ifCond .le 5, 3) := by decide +kernel
theorem dM_pass_41 : decode cM_pass 41 = .ok (.iconst 0, 1) := by decide +kernel
theorem dM_pass_42 : decode cM_pass 42 = .ok (.ireturn, 1) := by decide +kernel
theorem dM_pass_43 : decode cM_pass 43 = .ok (.aload_n 0, 1) := by decide +kernel
theorem dM_pass_44 : decode cM_pass 44 = .ok (.dup, 1) := by decide +kernel
theorem dM_pass_45 : decode cM_pass 45 = .ok (.getfield 50, 3) := by decide +kernel
theorem dM_pass_48 : decode cM_pass 48 = .ok (.iload_n 1, 1) := by decide +kernel
theorem dM_pass_49 : decode cM_pass 49 = .ok (.iadd, 1) := by decide +kernel
theorem dM_pass_50 : decode cM_pass 50 = .ok (.putfield 50, 3) := by decide +kernel
theorem dM_pass_53 : decode cM_pass 53 = .ok (.iconst 0, 1) := by decide +kernel
theorem dM_pass_54 : decode cM_pass 54 = .ok (.istore_n 2, 1) := by decide +kernel
theorem dM_pass_55 : decode cM_pass 55 = .ok (.aload_n 0, 1) := by decide +kernel
theorem dM_pass_56 : decode cM_pass 56 = .ok (.getfield 43, 3) := by decide +kernel
theorem dM_pass_59 : decode cM_pass 59 = .ok (.ifCond .le 31, 3) := by decide +kernel
theorem dM_pass_62 : decode cM_pass 62 = .ok (.aload_n 0, 1) := by decide +kernel
theorem dM_pass_63 : decode cM_pass 63 = .ok (.getfield 50, 3) := by decide +kernel
theorem dM_pass_66 : decode cM_pass 66 = .ok (.aload_n 0, 1) := by decide +kernel
theorem dM_pass_67 : decode cM_pass 67 = .ok (.getfield 22, 3) := by decide +kernel
theorem dM_pass_70 : decode cM_pass 70 = .ok (.iconst 0, 1) := by decide +kernel
theorem dM_pass_71 : decode cM_pass 71 = .ok (.iaload, 1) := by decide +kernel
theorem dM_pass_72 : decode cM_pass 72 = .ok (.isub, 1) := by decide +kernel
theorem dM_pass_73 : decode cM_pass 73 = .ok (.sipush 300, 3) := by decide +kernel
theorem dM_pass_76 : decode cM_pass 76 = .ok (.if_icmp .lt 14, 3) := by decide +kernel
theorem dM_pass_79 : decode cM_pass 79 = .ok (.aload_n 0, 1) := by decide +kernel
theorem dM_pass_80 : decode cM_pass 80 = .ok (.iconst 0, 1) := by decide +kernel
theorem dM_pass_81 : decode cM_pass 81 = .ok (.invokevirtual 46, 3) := by decide +kernel
theorem dM_pass_84 : decode cM_pass 84 = .ok (.iinc 2 1, 3) := by decide +kernel
theorem dM_pass_87 : decode cM_pass 87 = .ok (.goto (-32), 3) := by decide +kernel
theorem dM_pass_90 : decode cM_pass 90 = .ok (.iload_n 2, 1) := by decide +kernel
theorem dM_pass_91 : decode cM_pass 91 = .ok (.ireturn, 1) := by decide +kernel
theorem dM_about_0 : decode cM_about 0 = .ok (.aload_n 0, 1) := by decide +kernel
theorem dM_about_1 : decode cM_about 1 = .ok (.iload_n 1, 1) := by decide +kernel
theorem dM_about_2 : decode cM_about 2 = .ok (.ifCond .lt 8, 3) := by decide +kernel
theorem dM_about_5 : decode cM_about 5 = .ok (.iload_n 1, 1) := by decide +kernel
theorem dM_about_6 : decode cM_about 6 = .ok (.iconst 3, 1) := by decide +kernel
theorem dM_about_7 : decode cM_about 7 = .ok (.if_icmp .le 7, 3) := by decide +kernel
theorem dM_about_10 : decode cM_about 10 = .ok (.iconst 1, 1) := by decide +kernel
theorem dM_about_11 : decode cM_about 11 = .ok (.goto 15, 3) := by decide +kernel
theorem dM_about_14 : decode cM_about 14 = .ok (.aload_n 0, 1) := by decide +kernel
theorem dM_about_15 : decode cM_about 15 = .ok (.getfield 53, 3) := by decide +kernel
theorem dM_about_18 : decode cM_about 18 = .ok (.ifCond .ne 7, 3) := by decide +kernel
theorem dM_about_21 : decode cM_about 21 = .ok (.iconst 2, 1) := by decide +kernel
theorem dM_about_22 : decode cM_about 22 = .ok (.goto 4, 3) := by decide +kernel
theorem dM_about_25 : decode cM_about 25 = .ok (.iconst 0, 1) := by decide +kernel
theorem dM_about_26 : decode cM_about 26 = .ok (.putfield 34, 3) := by decide +kernel
theorem dM_about_29 : decode cM_about 29 = .ok (.aload_n 0, 1) := by decide +kernel
theorem dM_about_30 : decode cM_about 30 = .ok (.getfield 34, 3) := by decide +kernel
theorem dM_about_33 : decode cM_about 33 = .ok (.ifCond .le 7, 3) := by decide +kernel
theorem dM_about_36 : decode cM_about 36 = .ok (.iconst 0, 1) := by decide +kernel
theorem dM_about_37 : decode cM_about 37 = .ok (.goto 42, 3) := by decide +kernel
theorem dM_about_40 : decode cM_about 40 = .ok (.iload_n 1, 1) := by decide +kernel
theorem dM_about_41 : decode cM_about 41 = .ok (.ifCond .ne 10, 3) := by decide +kernel
theorem dM_about_44 : decode cM_about 44 = .ok (.aload_n 0, 1) := by decide +kernel
theorem dM_about_45 : decode cM_about 45 = .ok (.getfield 57, 3) := by decide +kernel
theorem dM_about_48 : decode cM_about 48 = .ok (.goto 31, 3) := by decide +kernel
theorem dM_about_51 : decode cM_about 51 = .ok (.iload_n 1, 1) := by decide +kernel
theorem dM_about_52 : decode cM_about 52 = .ok (.iconst 1, 1) := by decide +kernel
theorem dM_about_53 : decode cM_about 53 = .ok (.if_icmp .ne 10, 3) := by decide +kernel
theorem dM_about_56 : decode cM_about 56 = .ok (.aload_n 0, 1) := by decide +kernel
theorem dM_about_57 : decode cM_about 57 = .ok (.getfield 60, 3) := by decide +kernel
theorem dM_about_60 : decode cM_about 60 = .ok (.goto 19, 3) := by decide +kernel
theorem dM_about_63 : decode cM_about 63 = .ok (.iload_n 1, 1) := by decide +kernel
theorem dM_about_64 : decode cM_about 64 = .ok (.iconst 2, 1) := by decide +kernel
theorem dM_about_65 : decode cM_about 65 = .ok (.if_icmp .ne 10, 3) := by decide +kernel
theorem dM_about_68 : decode cM_about 68 = .ok (.aload_n 0, 1) := by decide +kernel
theorem dM_about_69 : decode cM_about 69 = .ok (.getfield 63, 3) := by decide +kernel
theorem dM_about_72 : decode cM_about 72 = .ok (.goto 7, 3) := by decide +kernel
theorem dM_about_75 : decode cM_about 75 = .ok (.aload_n 0, 1) := by decide +kernel
theorem dM_about_76 : decode cM_about 76 = .ok (.getfield 66, 3) := by decide +kernel
theorem dM_about_79 : decode cM_about 79 = .ok (.ireturn, 1) := by decide +kernel
theorem dM_byteAt_0 : decode cM_byteAt 0 = .ok (.aload_n 0, 1) := by decide +kernel
theorem dM_byteAt_1 : decode cM_byteAt 1 = .ok (.aload_n 0, 1) := by decide +kernel
theorem dM_byteAt_2 : decode cM_byteAt 2 = .ok (.getfield 53, 3) := by decide +kernel
theorem dM_byteAt_5 : decode cM_byteAt 5 = .ok (.ifCond .ne 7, 3) := by decide +kernel
theorem dM_byteAt_8 : decode cM_byteAt 8 = .ok (.iconst 1, 1) := by decide +kernel
theorem dM_byteAt_9 : decode cM_byteAt 9 = .ok (.goto 20, 3) := by decide +kernel
theorem dM_byteAt_12 : decode cM_byteAt 12 = .ok (.iload_n 1, 1) := by decide +kernel
theorem dM_byteAt_13 : decode cM_byteAt 13 = .ok (.ifCond .lt 11, 3) := by decide +kernel
theorem dM_byteAt_16 : decode cM_byteAt 16 = .ok (.iload_n 1, 1) := by decide +kernel
theorem dM_byteAt_17 : decode cM_byteAt 17 = .ok (.aload_n 0, 1) := by decide +kernel
theorem dM_byteAt_18 : decode cM_byteAt 18 = .ok (.getfield 66, 3) := by decide +kernel
theorem dM_byteAt_21 : decode cM_byteAt 21 = .ok (.if_icmp .lt 7, 3) := by decide +kernel
theorem dM_byteAt_24 : decode cM_byteAt 24 = .ok (.iconst 2, 1) := by decide +kernel
theorem dM_byteAt_25 : decode cM_byteAt 25 = .ok (.goto 4, 3) := by decide +kernel
theorem dM_byteAt_28 : decode cM_byteAt 28 = .ok (.iconst 0, 1) := by decide +kernel
theorem dM_byteAt_29 : decode cM_byteAt 29 = .ok (.putfield 34, 3) := by decide +kernel
theorem dM_byteAt_32 : decode cM_byteAt 32 = .ok (.aload_n 0, 1) := by decide +kernel
theorem dM_byteAt_33 : decode cM_byteAt 33 = .ok (.getfield 34, 3) := by decide +kernel
theorem dM_byteAt_36 : decode cM_byteAt 36 = .ok (.ifCond .le 7, 3) := by decide +kernel
theorem dM_byteAt_39 : decode cM_byteAt 39 = .ok (.iconst 0, 1) := by decide +kernel
theorem dM_byteAt_40 : decode cM_byteAt 40 = .ok (.goto 9, 3) := by decide +kernel
theorem dM_byteAt_43 : decode cM_byteAt 43 = .ok (.aload_n 0, 1) := by decide +kernel
theorem dM_byteAt_44 : decode cM_byteAt 44 = .ok (.getfield 31, 3) := by decide +kernel
theorem dM_byteAt_47 : decode cM_byteAt 47 = .ok (.iload_n 1, 1) := by decide +kernel
theorem dM_byteAt_48 : decode cM_byteAt 48 = .ok (.iaload, 1) := by decide +kernel
theorem dM_byteAt_49 : decode cM_byteAt 49 = .ok (.ireturn, 1) := by decide +kernel
theorem dM_missing_0 : decode cM_missing 0 = .ok (.aload_n 0, 1) := by decide +kernel
theorem dM_missing_1 : decode cM_missing 1 = .ok (.iconst 0, 1) := by decide +kernel
theorem dM_missing_2 : decode cM_missing 2 = .ok (.putfield 34, 3) := by decide +kernel
theorem dM_missing_5 : decode cM_missing 5 = .ok (.aload_n 0, 1) := by decide +kernel
theorem dM_missing_6 : decode cM_missing 6 = .ok (.iload_n 1, 1) := by decide +kernel
theorem dM_missing_7 : decode cM_missing 7 = .ok (.iload_n 2, 1) := by decide +kernel
theorem dM_missing_8 : decode cM_missing 8 = .ok (.iload_n 3, 1) := by decide +kernel
theorem dM_missing_9 : decode cM_missing 9 = .ok (.invokevirtual 69, 3) := by decide +kernel
theorem dM_missing_12 : decode cM_missing 12 = .ok (.istore 4, 2) := by decide +kernel
theorem dM_missing_14 : decode cM_missing 14 = .ok (.iload 4, 2) := by decide +kernel
theorem dM_missing_16 : decode cM_missing 16 = .ok (.ifCond .ge 7, 3) := by decide +kernel
theorem dM_missing_19 : decode cM_missing 19 = .ok (.iconst (-1), 1) := by decide +kernel
theorem dM_missing_20 : decode cM_missing 20 = .ok (.goto 9, 3) := by decide +kernel
theorem dM_missing_23 : decode cM_missing 23 = .ok (.aload_n 0, 1) := by decide +kernel
theorem dM_missing_24 : decode cM_missing 24 = .ok (.iload 4, 2) := by decide +kernel
theorem dM_missing_26 : decode cM_missing 26 = .ok (.invokevirtual 77, 3) := by decide +kernel
theorem dM_missing_29 : decode cM_missing 29 = .ok (.ireturn, 1) := by decide +kernel
theorem dM_has_0 : decode cM_has 0 = .ok (.aload_n 0, 1) := by decide +kernel
theorem dM_has_1 : decode cM_has 1 = .ok (.iconst 0, 1) := by decide +kernel
theorem dM_has_2 : decode cM_has 2 = .ok (.putfield 34, 3) := by decide +kernel
theorem dM_has_5 : decode cM_has 5 = .ok (.aload_n 0, 1) := by decide +kernel
theorem dM_has_6 : decode cM_has 6 = .ok (.iload_n 1, 1) := by decide +kernel
theorem dM_has_7 : decode cM_has 7 = .ok (.iload_n 2, 1) := by decide +kernel
theorem dM_has_8 : decode cM_has 8 = .ok (.iload_n 3, 1) := by decide +kernel
theorem dM_has_9 : decode cM_has 9 = .ok (.invokevirtual 69, 3) := by decide +kernel
theorem dM_has_12 : decode cM_has 12 = .ok (.istore 5, 2) := by decide +kernel
theorem dM_has_14 : decode cM_has 14 = .ok (.iload 5, 2) := by decide +kernel
theorem dM_has_16 : decode cM_has 16 = .ok (.ifCond .lt 41, 3) := by decide +kernel
theorem dM_has_19 : decode cM_has 19 = .ok (.iload 4, 2) := by decide +kernel
theorem dM_has_21 : decode cM_has 21 = .ok (.ifCond .lt 36, 3) := by decide +kernel
theorem dM_has_24 : decode cM_has 24 = .ok (.iload 4, 2) := by decide +kernel
theorem dM_has_26 : decode cM_has 26 = .ok (.aload_n 0, 1) := by decide +kernel
theorem dM_has_27 : decode cM_has 27 = .ok (.getfield 25, 3) := by decide +kernel
theorem dM_has_30 : decode cM_has 30 = .ok (.iload 5, 2) := by decide +kernel
theorem dM_has_32 : decode cM_has 32 = .ok (.iaload, 1) := by decide +kernel
theorem dM_has_33 : decode cM_has 33 = .ok (.if_icmp .ge 24, 3) := by decide +kernel
theorem dM_has_36 : decode cM_has 36 = .ok (.aload_n 0, 1) := by decide +kernel
theorem dM_has_37 : decode cM_has 37 = .ok (.getfield 28, 3) := by decide +kernel
theorem dM_has_40 : decode cM_has 40 = .ok (.sipush 1480, 3) := by decide +kernel
theorem dM_has_43 : decode cM_has 43 = .ok (.iload 5, 2) := by decide +kernel
theorem dM_has_45 : decode cM_has 45 = .ok (.imul, 1) := by decide +kernel
theorem dM_has_46 : decode cM_has 46 = .ok (.iload 4, 2) := by decide +kernel
theorem dM_has_48 : decode cM_has 48 = .ok (.iadd, 1) := by decide +kernel
theorem dM_has_49 : decode cM_has 49 = .ok (.iaload, 1) := by decide +kernel
theorem dM_has_50 : decode cM_has 50 = .ok (.ifCond .lt 7, 3) := by decide +kernel
theorem dM_has_53 : decode cM_has 53 = .ok (.iconst 1, 1) := by decide +kernel
theorem dM_has_54 : decode cM_has 54 = .ok (.goto 4, 3) := by decide +kernel
theorem dM_has_57 : decode cM_has 57 = .ok (.iconst 0, 1) := by decide +kernel
theorem dM_has_58 : decode cM_has 58 = .ok (.ireturn, 1) := by decide +kernel
theorem dM_waiting_0 : decode cM_waiting 0 = .ok (.aload_n 0, 1) := by decide +kernel
theorem dM_waiting_1 : decode cM_waiting 1 = .ok (.iconst 0, 1) := by decide +kernel
theorem dM_waiting_2 : decode cM_waiting 2 = .ok (.putfield 34, 3) := by decide +kernel
theorem dM_waiting_5 : decode cM_waiting 5 = .ok (.aload_n 0, 1) := by decide +kernel
theorem dM_waiting_6 : decode cM_waiting 6 = .ok (.getfield 43, 3) := by decide +kernel
theorem dM_waiting_9 : decode cM_waiting 9 = .ok (.ireturn, 1) := by decide +kernel
end
section
/-! what each instruction is -/
theorem dL_feed_0 : decode cL_feed 0 = .ok (.aload 4, 2) := by decide +kernel
theorem dL_feed_2 : decode cL_feed 2 = .ok (.iconst 0, 1) := by decide +kernel
theorem dL_feed_3 : decode cL_feed 3 = .ok (.aload_n 0, 1) := by decide +kernel
theorem dL_feed_4 : decode cL_feed 4 = .ok (.lload_n 1, 1) := by decide +kernel
theorem dL_feed_5 : decode cL_feed 5 = .ok (.iload_n 3, 1) := by decide +kernel
theorem dL_feed_6 : decode cL_feed 6 = .ok (.invokevirtual 7, 3) := by decide +kernel
theorem dL_feed_9 : decode cL_feed 9 = .ok (.i2l, 1) := by decide +kernel
theorem dL_feed_10 : decode cL_feed 10 = .ok (.lastore, 1) := by decide +kernel
theorem dL_feed_11 : decode cL_feed 11 = .ok (.goto 11, 3) := by decide +kernel
theorem dL_feed_14 : decode cL_feed 14 = .ok (.astore 5, 2) := by decide +kernel
theorem dL_feed_16 : decode cL_feed 16 = .ok (.iconst 1, 1) := by decide +kernel
theorem dL_feed_17 : decode cL_feed 17 = .ok (.ireturn, 1) := by decide +kernel
theorem dL_feed_18 : decode cL_feed 18 = .ok (.astore 5, 2) := by decide +kernel
theorem dL_feed_20 : decode cL_feed 20 = .ok (.iconst 2, 1) := by decide +kernel
theorem dL_feed_21 : decode cL_feed 21 = .ok (.ireturn, 1) := by decide +kernel
theorem dL_feed_22 : decode cL_feed 22 = .ok (.iconst 0, 1) := by decide +kernel
theorem dL_feed_23 : decode cL_feed 23 = .ok (.ireturn, 1) := by decide +kernel
theorem dL_piece_0 : decode cL_piece 0 = .ok (.aload 6, 2) := by decide +kernel
theorem dL_piece_2 : decode cL_piece 2 = .ok (.iconst 0, 1) := by decide +kernel
theorem dL_piece_3 : decode cL_piece 3 = .ok (.aload_n 0, 1) := by decide +kernel
theorem dL_piece_4 : decode cL_piece 4 = .ok (.iload_n 1, 1) := by decide +kernel
theorem dL_piece_5 : decode cL_piece 5 = .ok (.iload_n 2, 1) := by decide +kernel
theorem dL_piece_6 : decode cL_piece 6 = .ok (.iload_n 3, 1) := by decide +kernel
theorem dL_piece_7 : decode cL_piece 7 = .ok (.iload 4, 2) := by decide +kernel
theorem dL_piece_9 : decode cL_piece 9 = .ok (.iload 5, 2) := by decide +kernel
theorem dL_piece_11 : decode cL_piece 11 = .ok (.invokevirtual 17, 3) := by decide +kernel
theorem dL_piece_14 : decode cL_piece 14 = .ok (.i2l, 1) := by decide +kernel
theorem dL_piece_15 : decode cL_piece 15 = .ok (.lastore, 1) := by decide +kernel
theorem dL_piece_16 : decode cL_piece 16 = .ok (.goto 11, 3) := by decide +kernel
theorem dL_piece_19 : decode cL_piece 19 = .ok (.astore 7, 2) := by decide +kernel
theorem dL_piece_21 : decode cL_piece 21 = .ok (.iconst 1, 1) := by decide +kernel
theorem dL_piece_22 : decode cL_piece 22 = .ok (.ireturn, 1) := by decide +kernel
theorem dL_piece_23 : decode cL_piece 23 = .ok (.astore 7, 2) := by decide +kernel
theorem dL_piece_25 : decode cL_piece 25 = .ok (.iconst 2, 1) := by decide +kernel
theorem dL_piece_26 : decode cL_piece 26 = .ok (.ireturn, 1) := by decide +kernel
theorem dL_piece_27 : decode cL_piece 27 = .ok (.iconst 0, 1) := by decide +kernel
theorem dL_piece_28 : decode cL_piece 28 = .ok (.ireturn, 1) := by decide +kernel
theorem dL_pass_0 : decode cL_pass 0 = .ok (.aload_n 2, 1) := by decide +kernel
theorem dL_pass_1 : decode cL_pass 1 = .ok (.iconst 0, 1) := by decide +kernel
theorem dL_pass_2 : decode cL_pass 2 = .ok (.aload_n 0, 1) := by decide +kernel
theorem dL_pass_3 : decode cL_pass 3 = .ok (.iload_n 1, 1) := by decide +kernel
theorem dL_pass_4 : decode cL_pass 4 = .ok (.invokevirtual 21, 3) := by decide +kernel
theorem dL_pass_7 : decode cL_pass 7 = .ok (.i2l, 1) := by decide +kernel
theorem dL_pass_8 : decode cL_pass 8 = .ok (.lastore, 1) := by decide +kernel
theorem dL_pass_9 : decode cL_pass 9 = .ok (.goto 9, 3) := by decide +kernel
theorem dL_pass_12 : decode cL_pass 12 = .ok (.astore_n 3, 1) := by decide +kernel
theorem dL_pass_13 : decode cL_pass 13 = .ok (.iconst 1, 1) := by decide +kernel
theorem dL_pass_14 : decode cL_pass 14 = .ok (.ireturn, 1) := by decide +kernel
theorem dL_pass_15 : decode cL_pass 15 = .ok (.astore_n 3, 1) := by decide +kernel
theorem dL_pass_16 : decode cL_pass 16 = .ok (.iconst 2, 1) := by decide +kernel
theorem dL_pass_17 : decode cL_pass 17 = .ok (.ireturn, 1) := by decide +kernel
theorem dL_pass_18 : decode cL_pass 18 = .ok (.iconst 0, 1) := by decide +kernel
theorem dL_pass_19 : decode cL_pass 19 = .ok (.ireturn, 1) := by decide +kernel
theorem dL_about_0 : decode cL_about 0 = .ok (.aload_n 2, 1) := by decide +kernel
theorem dL_about_1 : decode cL_about 1 = .ok (.iconst 0, 1) := by decide +kernel
theorem dL_about_2 : decode cL_about 2 = .ok (.aload_n 0, 1) := by decide +kernel
theorem dL_about_3 : decode cL_about 3 = .ok (.iload_n 1, 1) := by decide +kernel
theorem dL_about_4 : decode cL_about 4 = .ok (.invokevirtual 25, 3) := by decide +kernel
theorem dL_about_7 : decode cL_about 7 = .ok (.i2l, 1) := by decide +kernel
theorem dL_about_8 : decode cL_about 8 = .ok (.lastore, 1) := by decide +kernel
theorem dL_about_9 : decode cL_about 9 = .ok (.goto 9, 3) := by decide +kernel
theorem dL_about_12 : decode cL_about 12 = .ok (.astore_n 3, 1) := by decide +kernel
theorem dL_about_13 : decode cL_about 13 = .ok (.iconst 1, 1) := by decide +kernel
theorem dL_about_14 : decode cL_about 14 = .ok (.ireturn, 1) := by decide +kernel
theorem dL_about_15 : decode cL_about 15 = .ok (.astore_n 3, 1) := by decide +kernel
theorem dL_about_16 : decode cL_about 16 = .ok (.iconst 2, 1) := by decide +kernel
theorem dL_about_17 : decode cL_about 17 = .ok (.ireturn, 1) := by decide +kernel
theorem dL_about_18 : decode cL_about 18 = .ok (.iconst 0, 1) := by decide +kernel
theorem dL_about_19 : decode cL_about 19 = .ok (.ireturn, 1) := by decide +kernel
theorem dL_byteAt_0 : decode cL_byteAt 0 = .ok (.aload_n 2, 1) := by decide +kernel
theorem dL_byteAt_1 : decode cL_byteAt 1 = .ok (.iconst 0, 1) := by decide +kernel
theorem dL_byteAt_2 : decode cL_byteAt 2 = .ok (.aload_n 0, 1) := by decide +kernel
theorem dL_byteAt_3 : decode cL_byteAt 3 = .ok (.iload_n 1, 1) := by decide +kernel
theorem dL_byteAt_4 : decode cL_byteAt 4 = .ok (.invokevirtual 28, 3) := by decide +kernel
theorem dL_byteAt_7 : decode cL_byteAt 7 = .ok (.i2l, 1) := by decide +kernel
theorem dL_byteAt_8 : decode cL_byteAt 8 = .ok (.lastore, 1) := by decide +kernel
theorem dL_byteAt_9 : decode cL_byteAt 9 = .ok (.goto 9, 3) := by decide +kernel
theorem dL_byteAt_12 : decode cL_byteAt 12 = .ok (.astore_n 3, 1) := by decide +kernel
theorem dL_byteAt_13 : decode cL_byteAt 13 = .ok (.iconst 1, 1) := by decide +kernel
theorem dL_byteAt_14 : decode cL_byteAt 14 = .ok (.ireturn, 1) := by decide +kernel
theorem dL_byteAt_15 : decode cL_byteAt 15 = .ok (.astore_n 3, 1) := by decide +kernel
theorem dL_byteAt_16 : decode cL_byteAt 16 = .ok (.iconst 2, 1) := by decide +kernel
theorem dL_byteAt_17 : decode cL_byteAt 17 = .ok (.ireturn, 1) := by decide +kernel
theorem dL_byteAt_18 : decode cL_byteAt 18 = .ok (.iconst 0, 1) := by decide +kernel
theorem dL_byteAt_19 : decode cL_byteAt 19 = .ok (.ireturn, 1) := by decide +kernel
theorem dL_law_0 : decode cL_law 0 = .ok (.new 8, 3) := by decide +kernel
theorem dL_law_3 : decode cL_law 3 = .ok (.dup, 1) := by decide +kernel
theorem dL_law_4 : decode cL_law 4 = .ok (.invokespecial 33, 3) := by decide +kernel
theorem dL_law_7 : decode cL_law 7 = .ok (.astore_n 1, 1) := by decide +kernel
theorem dL_law_8 : decode cL_law 8 = .ok (.new 34, 3) := by decide +kernel
theorem dL_law_11 : decode cL_law 11 = .ok (.dup, 1) := by decide +kernel
theorem dL_law_12 : decode cL_law 12 = .ok (.invokespecial 36, 3) := by decide +kernel
theorem dL_law_15 : decode cL_law 15 = .ok (.astore_n 2, 1) := by decide +kernel
theorem dL_law_16 : decode cL_law 16 = .ok (.iconst 1, 1) := by decide +kernel
theorem dL_law_17 : decode cL_law 17 = .ok (.newarray .long, 2) := by decide +kernel
theorem dL_law_19 : decode cL_law 19 = .ok (.astore_n 3, 1) := by decide +kernel
theorem dL_law_20 : decode cL_law 20 = .ok (.iconst 0, 1) := by decide +kernel
theorem dL_law_21 : decode cL_law 21 = .ok (.istore 4, 2) := by decide +kernel
theorem dL_law_23 : decode cL_law 23 = .ok (.iload 4, 2) := by decide +kernel
theorem dL_law_25 : decode cL_law 25 = .ok (.aload_n 0, 1) := by decide +kernel
theorem dL_law_26 : decode cL_law 26 = .ok (.arraylength, 1) := by decide +kernel
theorem dL_law_27 : decode cL_law 27 = .ok (.bipush 6, 2) := by decide +kernel
theorem dL_law_29 : decode cL_law 29 = .ok (.isub, 1) := by decide +kernel
theorem dL_law_30 : decode cL_law 30 = .ok (.if_icmp .gt 559, 3) := by decide +kernel
theorem dL_law_33 : decode cL_law 33 = .ok (.aload_n 0, 1) := by decide +kernel
theorem dL_law_34 : decode cL_law 34 = .ok (.iload 4, 2) := by decide +kernel
theorem dL_law_36 : decode cL_law 36 = .ok (.iaload, 1) := by decide +kernel
theorem dL_law_37 : decode cL_law 37 = .ok (.bipush 7, 2) := by decide +kernel
theorem dL_law_39 : decode cL_law 39 = .ok (.iand, 1) := by decide +kernel
theorem dL_law_40 : decode cL_law 40 = .ok (.tableswitch 543 0 7 #[48, 148, 252, 308, 364, 420, 469, 530], 48) := by decide +kernel
theorem dL_law_88 : decode cL_law 88 = .ok (.aload_n 1, 1) := by decide +kernel
theorem dL_law_89 : decode cL_law 89 = .ok (.aload_n 0, 1) := by decide +kernel
theorem dL_law_90 : decode cL_law 90 = .ok (.iload 4, 2) := by decide +kernel
theorem dL_law_92 : decode cL_law 92 = .ok (.iconst 1, 1) := by decide +kernel
theorem dL_law_93 : decode cL_law 93 = .ok (.iadd, 1) := by decide +kernel
theorem dL_law_94 : decode cL_law 94 = .ok (.iaload, 1) := by decide +kernel
theorem dL_law_95 : decode cL_law 95 = .ok (.i2l, 1) := by decide +kernel
theorem dL_law_96 : decode cL_law 96 = .ok (.bipush 32, 2) := by decide +kernel
theorem dL_law_98 : decode cL_law 98 = .ok (.lshl, 1) := by decide +kernel
theorem dL_law_99 : decode cL_law 99 = .ok (.aload_n 0, 1) := by decide +kernel
theorem dL_law_100 : decode cL_law 100 = .ok (.iload 4, 2) := by decide +kernel
theorem dL_law_102 : decode cL_law 102 = .ok (.iconst 2, 1) := by decide +kernel
theorem dL_law_103 : decode cL_law 103 = .ok (.iadd, 1) := by decide +kernel
theorem dL_law_104 : decode cL_law 104 = .ok (.iaload, 1) := by decide +kernel
theorem dL_law_105 : decode cL_law 105 = .ok (.i2l, 1) := by decide +kernel
theorem dL_law_106 : decode cL_law 106 = .ok (.ldc2_w 37, 3) := by decide +kernel
theorem dL_law_109 : decode cL_law 109 = .ok (.land, 1) := by decide +kernel
theorem dL_law_110 : decode cL_law 110 = .ok (.lor, 1) := by decide +kernel
theorem dL_law_111 : decode cL_law 111 = .ok (.aload_n 0, 1) := by decide +kernel
theorem dL_law_112 : decode cL_law 112 = .ok (.iload 4, 2) := by decide +kernel
theorem dL_law_114 : decode cL_law 114 = .ok (.iconst 3, 1) := by decide +kernel
theorem dL_law_115 : decode cL_law 115 = .ok (.iadd, 1) := by decide +kernel
theorem dL_law_116 : decode cL_law 116 = .ok (.iaload, 1) := by decide +kernel
theorem dL_law_117 : decode cL_law 117 = .ok (.aload_n 3, 1) := by decide +kernel
theorem dL_law_118 : decode cL_law 118 = .ok (.invokestatic 39, 3) := by decide +kernel
theorem dL_law_121 : decode cL_law 121 = .ok (.istore 5, 2) := by decide +kernel
theorem dL_law_123 : decode cL_law 123 = .ok (.aload_n 2, 1) := by decide +kernel
theorem dL_law_124 : decode cL_law 124 = .ok (.aload_n 0, 1) := by decide +kernel
theorem dL_law_125 : decode cL_law 125 = .ok (.iload 4, 2) := by decide +kernel
theorem dL_law_127 : decode cL_law 127 = .ok (.iconst 1, 1) := by decide +kernel
theorem dL_law_128 : decode cL_law 128 = .ok (.iadd, 1) := by decide +kernel
theorem dL_law_129 : decode cL_law 129 = .ok (.iaload, 1) := by decide +kernel
theorem dL_law_130 : decode cL_law 130 = .ok (.i2l, 1) := by decide +kernel
theorem dL_law_131 : decode cL_law 131 = .ok (.bipush 32, 2) := by decide +kernel
theorem dL_law_133 : decode cL_law 133 = .ok (.lshl, 1) := by decide +kernel
theorem dL_law_134 : decode cL_law 134 = .ok (.aload_n 0, 1) := by decide +kernel
theorem dL_law_135 : decode cL_law 135 = .ok (.iload 4, 2) := by decide +kernel
theorem dL_law_137 : decode cL_law 137 = .ok (.iconst 2, 1) := by decide +kernel
theorem dL_law_138 : decode cL_law 138 = .ok (.iadd, 1) := by decide +kernel
theorem dL_law_139 : decode cL_law 139 = .ok (.iaload, 1) := by decide +kernel
theorem dL_law_140 : decode cL_law 140 = .ok (.i2l, 1) := by decide +kernel
theorem dL_law_141 : decode cL_law 141 = .ok (.ldc2_w 37, 3) := by decide +kernel
theorem dL_law_144 : decode cL_law 144 = .ok (.land, 1) := by decide +kernel
theorem dL_law_145 : decode cL_law 145 = .ok (.lor, 1) := by decide +kernel
theorem dL_law_146 : decode cL_law 146 = .ok (.aload_n 0, 1) := by decide +kernel
theorem dL_law_147 : decode cL_law 147 = .ok (.iload 4, 2) := by decide +kernel
theorem dL_law_149 : decode cL_law 149 = .ok (.iconst 3, 1) := by decide +kernel
theorem dL_law_150 : decode cL_law 150 = .ok (.iadd, 1) := by decide +kernel
theorem dL_law_151 : decode cL_law 151 = .ok (.iaload, 1) := by decide +kernel
theorem dL_law_152 : decode cL_law 152 = .ok (.invokevirtual 44, 3) := by decide +kernel
theorem dL_law_155 : decode cL_law 155 = .ok (.istore 6, 2) := by decide +kernel
theorem dL_law_157 : decode cL_law 157 = .ok (.aload_n 2, 1) := by decide +kernel
theorem dL_law_158 : decode cL_law 158 = .ok (.invokevirtual 45, 3) := by decide +kernel
theorem dL_law_161 : decode cL_law 161 = .ok (.iload 5, 2) := by decide +kernel
theorem dL_law_163 : decode cL_law 163 = .ok (.if_icmp .eq 5, 3) := by decide +kernel
theorem dL_law_166 : decode cL_law 166 = .ok (.iconst 0, 1) := by decide +kernel
theorem dL_law_167 : decode cL_law 167 = .ok (.ireturn, 1) := by decide +kernel
theorem dL_law_168 : decode cL_law 168 = .ok (.iload 5, 2) := by decide +kernel
theorem dL_law_170 : decode cL_law 170 = .ok (.ifCond .ne 15, 3) := by decide +kernel
theorem dL_law_173 : decode cL_law 173 = .ok (.aload_n 3, 1) := by decide +kernel
theorem dL_law_174 : decode cL_law 174 = .ok (.iconst 0, 1) := by decide +kernel
theorem dL_law_175 : decode cL_law 175 = .ok (.laload, 1) := by decide +kernel
theorem dL_law_176 : decode cL_law 176 = .ok (.iload 6, 2) := by decide +kernel
theorem dL_law_178 : decode cL_law 178 = .ok (.i2l, 1) := by decide +kernel
theorem dL_law_179 : decode cL_law 179 = .ok (.lcmp, 1) := by decide +kernel
theorem dL_law_180 : decode cL_law 180 = .ok (.ifCond .eq 5, 3) := by decide +kernel
theorem dL_law_183 : decode cL_law 183 = .ok (.iconst 0, 1) := by decide +kernel
theorem dL_law_184 : decode cL_law 184 = .ok (.ireturn, 1) := by decide +kernel
theorem dL_law_185 : decode cL_law 185 = .ok (.goto 398, 3) := by decide +kernel
theorem dL_law_188 : decode cL_law 188 = .ok (.aload_n 1, 1) := by decide +kernel
theorem dL_law_189 : decode cL_law 189 = .ok (.aload_n 0, 1) := by decide +kernel
theorem dL_law_190 : decode cL_law 190 = .ok (.iload 4, 2) := by decide +kernel
theorem dL_law_192 : decode cL_law 192 = .ok (.iconst 1, 1) := by decide +kernel
theorem dL_law_193 : decode cL_law 193 = .ok (.iadd, 1) := by decide +kernel
theorem dL_law_194 : decode cL_law 194 = .ok (.iaload, 1) := by decide +kernel
theorem dL_law_195 : decode cL_law 195 = .ok (.aload_n 0, 1) := by decide +kernel
theorem dL_law_196 : decode cL_law 196 = .ok (.iload 4, 2) := by decide +kernel
theorem dL_law_198 : decode cL_law 198 = .ok (.iconst 2, 1) := by decide +kernel
theorem dL_law_199 : decode cL_law 199 = .ok (.iadd, 1) := by decide +kernel
theorem dL_law_200 : decode cL_law 200 = .ok (.iaload, 1) := by decide +kernel
theorem dL_law_201 : decode cL_law 201 = .ok (.aload_n 0, 1) := by decide +kernel
theorem dL_law_202 : decode cL_law 202 = .ok (.iload 4, 2) := by decide +kernel
theorem dL_law_204 : decode cL_law 204 = .ok (.iconst 3, 1) := by decide +kernel
theorem dL_law_205 : decode cL_law 205 = .ok (.iadd, 1) := by decide +kernel
theorem dL_law_206 : decode cL_law 206 = .ok (.iaload, 1) := by decide +kernel
theorem dL_law_207 : decode cL_law 207 = .ok (.aload_n 0, 1) := by decide +kernel
theorem dL_law_208 : decode cL_law 208 = .ok (.iload 4, 2) := by decide +kernel
theorem dL_law_210 : decode cL_law 210 = .ok (.iconst 4, 1) := by decide +kernel
theorem dL_law_211 : decode cL_law 211 = .ok (.iadd, 1) := by decide +kernel
theorem dL_law_212 : decode cL_law 212 = .ok (.iaload, 1) := by decide +kernel
theorem dL_law_213 : decode cL_law 213 = .ok (.aload_n 0, 1) := by decide +kernel
theorem dL_law_214 : decode cL_law 214 = .ok (.iload 4, 2) := by decide +kernel
theorem dL_law_216 : decode cL_law 216 = .ok (.iconst 5, 1) := by decide +kernel
theorem dL_law_217 : decode cL_law 217 = .ok (.iadd, 1) := by decide +kernel
theorem dL_law_218 : decode cL_law 218 = .ok (.iaload, 1) := by decide +kernel
theorem dL_law_219 : decode cL_law 219 = .ok (.aload_n 3, 1) := by decide +kernel
theorem dL_law_220 : decode cL_law 220 = .ok (.invokestatic 49, 3) := by decide +kernel
theorem dL_law_223 : decode cL_law 223 = .ok (.istore 5, 2) := by decide +kernel
theorem dL_law_225 : decode cL_law 225 = .ok (.aload_n 2, 1) := by decide +kernel
theorem dL_law_226 : decode cL_law 226 = .ok (.aload_n 0, 1) := by decide +kernel
theorem dL_law_227 : decode cL_law 227 = .ok (.iload 4, 2) := by decide +kernel
theorem dL_law_229 : decode cL_law 229 = .ok (.iconst 1, 1) := by decide +kernel
theorem dL_law_230 : decode cL_law 230 = .ok (.iadd, 1) := by decide +kernel
theorem dL_law_231 : decode cL_law 231 = .ok (.iaload, 1) := by decide +kernel
theorem dL_law_232 : decode cL_law 232 = .ok (.aload_n 0, 1) := by decide +kernel
theorem dL_law_233 : decode cL_law 233 = .ok (.iload 4, 2) := by decide +kernel
theorem dL_law_235 : decode cL_law 235 = .ok (.iconst 2, 1) := by decide +kernel
theorem dL_law_236 : decode cL_law 236 = .ok (.iadd, 1) := by decide +kernel
theorem dL_law_237 : decode cL_law 237 = .ok (.iaload, 1) := by decide +kernel
theorem dL_law_238 : decode cL_law 238 = .ok (.aload_n 0, 1) := by decide +kernel
theorem dL_law_239 : decode cL_law 239 = .ok (.iload 4, 2) := by decide +kernel
theorem dL_law_241 : decode cL_law 241 = .ok (.iconst 3, 1) := by decide +kernel
theorem dL_law_242 : decode cL_law 242 = .ok (.iadd, 1) := by decide +kernel
theorem dL_law_243 : decode cL_law 243 = .ok (.iaload, 1) := by decide +kernel
theorem dL_law_244 : decode cL_law 244 = .ok (.aload_n 0, 1) := by decide +kernel
theorem dL_law_245 : decode cL_law 245 = .ok (.iload 4, 2) := by decide +kernel
theorem dL_law_247 : decode cL_law 247 = .ok (.iconst 4, 1) := by decide +kernel
theorem dL_law_248 : decode cL_law 248 = .ok (.iadd, 1) := by decide +kernel
theorem dL_law_249 : decode cL_law 249 = .ok (.iaload, 1) := by decide +kernel
theorem dL_law_250 : decode cL_law 250 = .ok (.aload_n 0, 1) := by decide +kernel
theorem dL_law_251 : decode cL_law 251 = .ok (.iload 4, 2) := by decide +kernel
theorem dL_law_253 : decode cL_law 253 = .ok (.iconst 5, 1) := by decide +kernel
theorem dL_law_254 : decode cL_law 254 = .ok (.iadd, 1) := by decide +kernel
theorem dL_law_255 : decode cL_law 255 = .ok (.iaload, 1) := by decide +kernel
theorem dL_law_256 : decode cL_law 256 = .ok (.invokevirtual 52, 3) := by decide +kernel
theorem dL_law_259 : decode cL_law 259 = .ok (.istore 6, 2) := by decide +kernel
theorem dL_law_261 : decode cL_law 261 = .ok (.aload_n 2, 1) := by decide +kernel
theorem dL_law_262 : decode cL_law 262 = .ok (.invokevirtual 45, 3) := by decide +kernel
theorem dL_law_265 : decode cL_law 265 = .ok (.iload 5, 2) := by decide +kernel
theorem dL_law_267 : decode cL_law 267 = .ok (.if_icmp .eq 5, 3) := by decide +kernel
theorem dL_law_270 : decode cL_law 270 = .ok (.iconst 0, 1) := by decide +kernel
theorem dL_law_271 : decode cL_law 271 = .ok (.ireturn, 1) := by decide +kernel
theorem dL_law_272 : decode cL_law 272 = .ok (.iload 5, 2) := by decide +kernel
theorem dL_law_274 : decode cL_law 274 = .ok (.ifCond .ne 15, 3) := by decide +kernel
theorem dL_law_277 : decode cL_law 277 = .ok (.aload_n 3, 1) := by decide +kernel
theorem dL_law_278 : decode cL_law 278 = .ok (.iconst 0, 1) := by decide +kernel
theorem dL_law_279 : decode cL_law 279 = .ok (.laload, 1) := by decide +kernel
theorem dL_law_280 : decode cL_law 280 = .ok (.iload 6, 2) := by decide +kernel
theorem dL_law_282 : decode cL_law 282 = .ok (.i2l, 1) := by decide +kernel
theorem dL_law_283 : decode cL_law 283 = .ok (.lcmp, 1) := by decide +kernel
theorem dL_law_284 : decode cL_law 284 = .ok (.ifCond .eq 5, 3) := by decide +kernel
theorem dL_law_287 : decode cL_law 287 = .ok (.iconst 0, 1) := by decide +kernel
theorem dL_law_288 : decode cL_law 288 = .ok (.ireturn, 1) := by decide +kernel
theorem dL_law_289 : decode cL_law 289 = .ok (.goto 294, 3) := by decide +kernel
theorem dL_law_292 : decode cL_law 292 = .ok (.aload_n 1, 1) := by decide +kernel
theorem dL_law_293 : decode cL_law 293 = .ok (.aload_n 0, 1) := by decide +kernel
theorem dL_law_294 : decode cL_law 294 = .ok (.iload 4, 2) := by decide +kernel
theorem dL_law_296 : decode cL_law 296 = .ok (.iconst 1, 1) := by decide +kernel
theorem dL_law_297 : decode cL_law 297 = .ok (.iadd, 1) := by decide +kernel
theorem dL_law_298 : decode cL_law 298 = .ok (.iaload, 1) := by decide +kernel
theorem dL_law_299 : decode cL_law 299 = .ok (.aload_n 3, 1) := by decide +kernel
theorem dL_law_300 : decode cL_law 300 = .ok (.invokestatic 53, 3) := by decide +kernel
theorem dL_law_303 : decode cL_law 303 = .ok (.istore 5, 2) := by decide +kernel
theorem dL_law_305 : decode cL_law 305 = .ok (.aload_n 2, 1) := by decide +kernel
theorem dL_law_306 : decode cL_law 306 = .ok (.aload_n 0, 1) := by decide +kernel
theorem dL_law_307 : decode cL_law 307 = .ok (.iload 4, 2) := by decide +kernel
theorem dL_law_309 : decode cL_law 309 = .ok (.iconst 1, 1) := by decide +kernel
theorem dL_law_310 : decode cL_law 310 = .ok (.iadd, 1) := by decide +kernel
theorem dL_law_311 : decode cL_law 311 = .ok (.iaload, 1) := by decide +kernel
theorem dL_law_312 : decode cL_law 312 = .ok (.invokevirtual 56, 3) := by decide +kernel
theorem dL_law_315 : decode cL_law 315 = .ok (.istore 6, 2) := by decide +kernel
theorem dL_law_317 : decode cL_law 317 = .ok (.aload_n 2, 1) := by decide +kernel
theorem dL_law_318 : decode cL_law 318 = .ok (.invokevirtual 45, 3) := by decide +kernel
theorem dL_law_321 : decode cL_law 321 = .ok (.iload 5, 2) := by decide +kernel
theorem dL_law_323 : decode cL_law 323 = .ok (.if_icmp .eq 5, 3) := by decide +kernel
theorem dL_law_326 : decode cL_law 326 = .ok (.iconst 0, 1) := by decide +kernel
theorem dL_law_327 : decode cL_law 327 = .ok (.ireturn, 1) := by decide +kernel
theorem dL_law_328 : decode cL_law 328 = .ok (.iload 5, 2) := by decide +kernel
theorem dL_law_330 : decode cL_law 330 = .ok (.ifCond .ne 15, 3) := by decide +kernel
theorem dL_law_333 : decode cL_law 333 = .ok (.aload_n 3, 1) := by decide +kernel
theorem dL_law_334 : decode cL_law 334 = .ok (.iconst 0, 1) := by decide +kernel
theorem dL_law_335 : decode cL_law 335 = .ok (.laload, 1) := by decide +kernel
theorem dL_law_336 : decode cL_law 336 = .ok (.iload 6, 2) := by decide +kernel
theorem dL_law_338 : decode cL_law 338 = .ok (.i2l, 1) := by decide +kernel
theorem dL_law_339 : decode cL_law 339 = .ok (.lcmp, 1) := by decide +kernel
theorem dL_law_340 : decode cL_law 340 = .ok (.ifCond .eq 5, 3) := by decide +kernel
theorem dL_law_343 : decode cL_law 343 = .ok (.iconst 0, 1) := by decide +kernel
theorem dL_law_344 : decode cL_law 344 = .ok (.ireturn, 1) := by decide +kernel
theorem dL_law_345 : decode cL_law 345 = .ok (.goto 238, 3) := by decide +kernel
theorem dL_law_348 : decode cL_law 348 = .ok (.aload_n 1, 1) := by decide +kernel
theorem dL_law_349 : decode cL_law 349 = .ok (.aload_n 0, 1) := by decide +kernel
theorem dL_law_350 : decode cL_law 350 = .ok (.iload 4, 2) := by decide +kernel
theorem dL_law_352 : decode cL_law 352 = .ok (.iconst 1, 1) := by decide +kernel
theorem dL_law_353 : decode cL_law 353 = .ok (.iadd, 1) := by decide +kernel
theorem dL_law_354 : decode cL_law 354 = .ok (.iaload, 1) := by decide +kernel
theorem dL_law_355 : decode cL_law 355 = .ok (.aload_n 3, 1) := by decide +kernel
theorem dL_law_356 : decode cL_law 356 = .ok (.invokestatic 57, 3) := by decide +kernel
theorem dL_law_359 : decode cL_law 359 = .ok (.istore 5, 2) := by decide +kernel
theorem dL_law_361 : decode cL_law 361 = .ok (.aload_n 2, 1) := by decide +kernel
theorem dL_law_362 : decode cL_law 362 = .ok (.aload_n 0, 1) := by decide +kernel
theorem dL_law_363 : decode cL_law 363 = .ok (.iload 4, 2) := by decide +kernel
theorem dL_law_365 : decode cL_law 365 = .ok (.iconst 1, 1) := by decide +kernel
theorem dL_law_366 : decode cL_law 366 = .ok (.iadd, 1) := by decide +kernel
theorem dL_law_367 : decode cL_law 367 = .ok (.iaload, 1) := by decide +kernel
theorem dL_law_368 : decode cL_law 368 = .ok (.invokevirtual 59, 3) := by decide +kernel
theorem dL_law_371 : decode cL_law 371 = .ok (.istore 6, 2) := by decide +kernel
theorem dL_law_373 : decode cL_law 373 = .ok (.aload_n 2, 1) := by decide +kernel
theorem dL_law_374 : decode cL_law 374 = .ok (.invokevirtual 45, 3) := by decide +kernel
theorem dL_law_377 : decode cL_law 377 = .ok (.iload 5, 2) := by decide +kernel
theorem dL_law_379 : decode cL_law 379 = .ok (.if_icmp .eq 5, 3) := by decide +kernel
theorem dL_law_382 : decode cL_law 382 = .ok (.iconst 0, 1) := by decide +kernel
theorem dL_law_383 : decode cL_law 383 = .ok (.ireturn, 1) := by decide +kernel
theorem dL_law_384 : decode cL_law 384 = .ok (.iload 5, 2) := by decide +kernel
theorem dL_law_386 : decode cL_law 386 = .ok (.ifCond .ne 15, 3) := by decide +kernel
theorem dL_law_389 : decode cL_law 389 = .ok (.aload_n 3, 1) := by decide +kernel
theorem dL_law_390 : decode cL_law 390 = .ok (.iconst 0, 1) := by decide +kernel
theorem dL_law_391 : decode cL_law 391 = .ok (.laload, 1) := by decide +kernel
theorem dL_law_392 : decode cL_law 392 = .ok (.iload 6, 2) := by decide +kernel
theorem dL_law_394 : decode cL_law 394 = .ok (.i2l, 1) := by decide +kernel
theorem dL_law_395 : decode cL_law 395 = .ok (.lcmp, 1) := by decide +kernel
theorem dL_law_396 : decode cL_law 396 = .ok (.ifCond .eq 5, 3) := by decide +kernel
theorem dL_law_399 : decode cL_law 399 = .ok (.iconst 0, 1) := by decide +kernel
theorem dL_law_400 : decode cL_law 400 = .ok (.ireturn, 1) := by decide +kernel
theorem dL_law_401 : decode cL_law 401 = .ok (.goto 182, 3) := by decide +kernel
theorem dL_law_404 : decode cL_law 404 = .ok (.aload_n 1, 1) := by decide +kernel
theorem dL_law_405 : decode cL_law 405 = .ok (.aload_n 0, 1) := by decide +kernel
theorem dL_law_406 : decode cL_law 406 = .ok (.iload 4, 2) := by decide +kernel
theorem dL_law_408 : decode cL_law 408 = .ok (.iconst 1, 1) := by decide +kernel
theorem dL_law_409 : decode cL_law 409 = .ok (.iadd, 1) := by decide +kernel
theorem dL_law_410 : decode cL_law 410 = .ok (.iaload, 1) := by decide +kernel
theorem dL_law_411 : decode cL_law 411 = .ok (.aload_n 3, 1) := by decide +kernel
theorem dL_law_412 : decode cL_law 412 = .ok (.invokestatic 60, 3) := by decide +kernel
theorem dL_law_415 : decode cL_law 415 = .ok (.istore 5, 2) := by decide +kernel
theorem dL_law_417 : decode cL_law 417 = .ok (.aload_n 2, 1) := by decide +kernel
theorem dL_law_418 : decode cL_law 418 = .ok (.aload_n 0, 1) := by decide +kernel
theorem dL_law_419 : decode cL_law 419 = .ok (.iload 4, 2) := by decide +kernel
theorem dL_law_421 : decode cL_law 421 = .ok (.iconst 1, 1) := by decide +kernel
theorem dL_law_422 : decode cL_law 422 = .ok (.iadd, 1) := by decide +kernel
theorem dL_law_423 : decode cL_law 423 = .ok (.iaload, 1) := by decide +kernel
theorem dL_law_424 : decode cL_law 424 = .ok (.invokevirtual 62, 3) := by decide +kernel
theorem dL_law_427 : decode cL_law 427 = .ok (.istore 6, 2) := by decide +kernel
theorem dL_law_429 : decode cL_law 429 = .ok (.aload_n 2, 1) := by decide +kernel
theorem dL_law_430 : decode cL_law 430 = .ok (.invokevirtual 45, 3) := by decide +kernel
theorem dL_law_433 : decode cL_law 433 = .ok (.iload 5, 2) := by decide +kernel
theorem dL_law_435 : decode cL_law 435 = .ok (.if_icmp .eq 5, 3) := by decide +kernel
theorem dL_law_438 : decode cL_law 438 = .ok (.iconst 0, 1) := by decide +kernel
theorem dL_law_439 : decode cL_law 439 = .ok (.ireturn, 1) := by decide +kernel
theorem dL_law_440 : decode cL_law 440 = .ok (.iload 5, 2) := by decide +kernel
theorem dL_law_442 : decode cL_law 442 = .ok (.ifCond .ne 15, 3) := by decide +kernel
theorem dL_law_445 : decode cL_law 445 = .ok (.aload_n 3, 1) := by decide +kernel
theorem dL_law_446 : decode cL_law 446 = .ok (.iconst 0, 1) := by decide +kernel
theorem dL_law_447 : decode cL_law 447 = .ok (.laload, 1) := by decide +kernel
theorem dL_law_448 : decode cL_law 448 = .ok (.iload 6, 2) := by decide +kernel
theorem dL_law_450 : decode cL_law 450 = .ok (.i2l, 1) := by decide +kernel
theorem dL_law_451 : decode cL_law 451 = .ok (.lcmp, 1) := by decide +kernel
theorem dL_law_452 : decode cL_law 452 = .ok (.ifCond .eq 5, 3) := by decide +kernel
theorem dL_law_455 : decode cL_law 455 = .ok (.iconst 0, 1) := by decide +kernel
theorem dL_law_456 : decode cL_law 456 = .ok (.ireturn, 1) := by decide +kernel
theorem dL_law_457 : decode cL_law 457 = .ok (.goto 126, 3) := by decide +kernel
theorem dL_law_460 : decode cL_law 460 = .ok (.aload_n 1, 1) := by decide +kernel
theorem dL_law_461 : decode cL_law 461 = .ok (.aload_n 0, 1) := by decide +kernel
theorem dL_law_462 : decode cL_law 462 = .ok (.iload 4, 2) := by decide +kernel
theorem dL_law_464 : decode cL_law 464 = .ok (.iconst 1, 1) := by decide +kernel
theorem dL_law_465 : decode cL_law 465 = .ok (.iadd, 1) := by decide +kernel
theorem dL_law_466 : decode cL_law 466 = .ok (.iaload, 1) := by decide +kernel
theorem dL_law_467 : decode cL_law 467 = .ok (.aload_n 0, 1) := by decide +kernel
theorem dL_law_468 : decode cL_law 468 = .ok (.iload 4, 2) := by decide +kernel
theorem dL_law_470 : decode cL_law 470 = .ok (.iconst 2, 1) := by decide +kernel
theorem dL_law_471 : decode cL_law 471 = .ok (.iadd, 1) := by decide +kernel
theorem dL_law_472 : decode cL_law 472 = .ok (.iaload, 1) := by decide +kernel
theorem dL_law_473 : decode cL_law 473 = .ok (.aload_n 0, 1) := by decide +kernel
theorem dL_law_474 : decode cL_law 474 = .ok (.iload 4, 2) := by decide +kernel
theorem dL_law_476 : decode cL_law 476 = .ok (.iconst 3, 1) := by decide +kernel
theorem dL_law_477 : decode cL_law 477 = .ok (.iadd, 1) := by decide +kernel
theorem dL_law_478 : decode cL_law 478 = .ok (.iaload, 1) := by decide +kernel
theorem dL_law_479 : decode cL_law 479 = .ok (.invokevirtual 63, 3) := by decide +kernel
theorem dL_law_482 : decode cL_law 482 = .ok (.aload_n 2, 1) := by decide +kernel
theorem dL_law_483 : decode cL_law 483 = .ok (.aload_n 0, 1) := by decide +kernel
theorem dL_law_484 : decode cL_law 484 = .ok (.iload 4, 2) := by decide +kernel
theorem dL_law_486 : decode cL_law 486 = .ok (.iconst 1, 1) := by decide +kernel
theorem dL_law_487 : decode cL_law 487 = .ok (.iadd, 1) := by decide +kernel
theorem dL_law_488 : decode cL_law 488 = .ok (.iaload, 1) := by decide +kernel
theorem dL_law_489 : decode cL_law 489 = .ok (.aload_n 0, 1) := by decide +kernel
theorem dL_law_490 : decode cL_law 490 = .ok (.iload 4, 2) := by decide +kernel
theorem dL_law_492 : decode cL_law 492 = .ok (.iconst 2, 1) := by decide +kernel
theorem dL_law_493 : decode cL_law 493 = .ok (.iadd, 1) := by decide +kernel
theorem dL_law_494 : decode cL_law 494 = .ok (.iaload, 1) := by decide +kernel
theorem dL_law_495 : decode cL_law 495 = .ok (.aload_n 0, 1) := by decide +kernel
theorem dL_law_496 : decode cL_law 496 = .ok (.iload 4, 2) := by decide +kernel
theorem dL_law_498 : decode cL_law 498 = .ok (.iconst 3, 1) := by decide +kernel
theorem dL_law_499 : decode cL_law 499 = .ok (.iadd, 1) := by decide +kernel
theorem dL_law_500 : decode cL_law 500 = .ok (.iaload, 1) := by decide +kernel
theorem dL_law_501 : decode cL_law 501 = .ok (.invokevirtual 67, 3) := by decide +kernel
theorem dL_law_504 : decode cL_law 504 = .ok (.if_icmp .eq 79, 3) := by decide +kernel
theorem dL_law_507 : decode cL_law 507 = .ok (.iconst 0, 1) := by decide +kernel
theorem dL_law_508 : decode cL_law 508 = .ok (.ireturn, 1) := by decide +kernel
theorem dL_law_509 : decode cL_law 509 = .ok (.aload_n 1, 1) := by decide +kernel
theorem dL_law_510 : decode cL_law 510 = .ok (.aload_n 0, 1) := by decide +kernel
theorem dL_law_511 : decode cL_law 511 = .ok (.iload 4, 2) := by decide +kernel
theorem dL_law_513 : decode cL_law 513 = .ok (.iconst 1, 1) := by decide +kernel
theorem dL_law_514 : decode cL_law 514 = .ok (.iadd, 1) := by decide +kernel
theorem dL_law_515 : decode cL_law 515 = .ok (.iaload, 1) := by decide +kernel
theorem dL_law_516 : decode cL_law 516 = .ok (.aload_n 0, 1) := by decide +kernel
theorem dL_law_517 : decode cL_law 517 = .ok (.iload 4, 2) := by decide +kernel
theorem dL_law_519 : decode cL_law 519 = .ok (.iconst 2, 1) := by decide +kernel
theorem dL_law_520 : decode cL_law 520 = .ok (.iadd, 1) := by decide +kernel
theorem dL_law_521 : decode cL_law 521 = .ok (.iaload, 1) := by decide +kernel
theorem dL_law_522 : decode cL_law 522 = .ok (.aload_n 0, 1) := by decide +kernel
theorem dL_law_523 : decode cL_law 523 = .ok (.iload 4, 2) := by decide +kernel
theorem dL_law_525 : decode cL_law 525 = .ok (.iconst 3, 1) := by decide +kernel
theorem dL_law_526 : decode cL_law 526 = .ok (.iadd, 1) := by decide +kernel
theorem dL_law_527 : decode cL_law 527 = .ok (.iaload, 1) := by decide +kernel
theorem dL_law_528 : decode cL_law 528 = .ok (.aload_n 0, 1) := by decide +kernel
theorem dL_law_529 : decode cL_law 529 = .ok (.iload 4, 2) := by decide +kernel
theorem dL_law_531 : decode cL_law 531 = .ok (.iconst 4, 1) := by decide +kernel
theorem dL_law_532 : decode cL_law 532 = .ok (.iadd, 1) := by decide +kernel
theorem dL_law_533 : decode cL_law 533 = .ok (.iaload, 1) := by decide +kernel
theorem dL_law_534 : decode cL_law 534 = .ok (.invokevirtual 68, 3) := by decide +kernel
theorem dL_law_537 : decode cL_law 537 = .ok (.aload_n 2, 1) := by decide +kernel
theorem dL_law_538 : decode cL_law 538 = .ok (.aload_n 0, 1) := by decide +kernel
theorem dL_law_539 : decode cL_law 539 = .ok (.iload 4, 2) := by decide +kernel
theorem dL_law_541 : decode cL_law 541 = .ok (.iconst 1, 1) := by decide +kernel
theorem dL_law_542 : decode cL_law 542 = .ok (.iadd, 1) := by decide +kernel
theorem dL_law_543 : decode cL_law 543 = .ok (.iaload, 1) := by decide +kernel
theorem dL_law_544 : decode cL_law 544 = .ok (.aload_n 0, 1) := by decide +kernel
theorem dL_law_545 : decode cL_law 545 = .ok (.iload 4, 2) := by decide +kernel
theorem dL_law_547 : decode cL_law 547 = .ok (.iconst 2, 1) := by decide +kernel
theorem dL_law_548 : decode cL_law 548 = .ok (.iadd, 1) := by decide +kernel
theorem dL_law_549 : decode cL_law 549 = .ok (.iaload, 1) := by decide +kernel
theorem dL_law_550 : decode cL_law 550 = .ok (.aload_n 0, 1) := by decide +kernel
theorem dL_law_551 : decode cL_law 551 = .ok (.iload 4, 2) := by decide +kernel
theorem dL_law_553 : decode cL_law 553 = .ok (.iconst 3, 1) := by decide +kernel
theorem dL_law_554 : decode cL_law 554 = .ok (.iadd, 1) := by decide +kernel
theorem dL_law_555 : decode cL_law 555 = .ok (.iaload, 1) := by decide +kernel
theorem dL_law_556 : decode cL_law 556 = .ok (.aload_n 0, 1) := by decide +kernel
theorem dL_law_557 : decode cL_law 557 = .ok (.iload 4, 2) := by decide +kernel
theorem dL_law_559 : decode cL_law 559 = .ok (.iconst 4, 1) := by decide +kernel
theorem dL_law_560 : decode cL_law 560 = .ok (.iadd, 1) := by decide +kernel
theorem dL_law_561 : decode cL_law 561 = .ok (.iaload, 1) := by decide +kernel
theorem dL_law_562 : decode cL_law 562 = .ok (.invokevirtual 72, 3) := by decide +kernel
theorem dL_law_565 : decode cL_law 565 = .ok (.if_icmp .eq 18, 3) := by decide +kernel
theorem dL_law_568 : decode cL_law 568 = .ok (.iconst 0, 1) := by decide +kernel
theorem dL_law_569 : decode cL_law 569 = .ok (.ireturn, 1) := by decide +kernel
theorem dL_law_570 : decode cL_law 570 = .ok (.aload_n 1, 1) := by decide +kernel
theorem dL_law_571 : decode cL_law 571 = .ok (.invokevirtual 73, 3) := by decide +kernel
theorem dL_law_574 : decode cL_law 574 = .ok (.aload_n 2, 1) := by decide +kernel
theorem dL_law_575 : decode cL_law 575 = .ok (.invokevirtual 76, 3) := by decide +kernel
theorem dL_law_578 : decode cL_law 578 = .ok (.if_icmp .eq 5, 3) := by decide +kernel
theorem dL_law_581 : decode cL_law 581 = .ok (.iconst 0, 1) := by decide +kernel
theorem dL_law_582 : decode cL_law 582 = .ok (.ireturn, 1) := by decide +kernel
theorem dL_law_583 : decode cL_law 583 = .ok (.iinc 4 6, 3) := by decide +kernel
theorem dL_law_586 : decode cL_law 586 = .ok (.goto (-563), 3) := by decide +kernel
theorem dL_law_589 : decode cL_law 589 = .ok (.iconst 1, 1) := by decide +kernel
theorem dL_law_590 : decode cL_law 590 = .ok (.ireturn, 1) := by decide +kernel
end
section
/-! rows of my own over the kit: one list of words for all methods, one world for a walk, a contract's form, opening, return, call -/
section PW
variable {p : Program} {l : Launch} {e : Env} {R : Room} {s : State} {m : MethodId} {args : Array Value} {below : List Frame} {meth : Method} {c : Code} {H : Heap} {locs : List Loc} {cells slots : Nat} {Q : State → Prop} {pc : Nat} {ls : Array Slot} {rest : List Value} {cc : ByteArray} {nL : Nat} {own : String} {D : va_G} {tys : List (ClassId × FieldType)} {A B : Nat → Prop} {ws wa wb wc : va_W} {mc ms : Nat}
def pw_T : List Cond := lw_tbl.filter goodWord
theorem pw_in {w : Cond} (h : w ∈ lw_tbl) (g : goodWord w = true) : w ∈ pw_T := List.mem_filter.mpr ⟨h, g⟩
/-- the tables' words at the law's start, from which this state comes; two statics of Throwable -/
def pw_Z (A : Nat → Prop) (U : State) (H : Heap) : Prop := (∃ (s0 : State) (a0 : Array Value), s0.WarmedH U.vm ∧ (∀ w ∈ lw_tbl, w.before a0 s0 = true) ∧ (Jvm.Cond.and given_1 narrow_1).before a0 s0 = true) ∧ vx_Zq Bundle.tN "UNASSIGNED_STACK" Bundle.steD A U H ∧ vx_Zq Bundle.tN "SUPPRESSED_SENTINEL" Bundle.listD A U H
theorem pw_Z.warm {U : State} (hW : s.WarmedH U.vm) (h : pw_Z A s H) : pw_Z A U H := by
  obtain ⟨⟨s0, a0, h1, h2, h3⟩, h4, h5⟩ := h
  exact ⟨⟨s0, a0, State.WarmedH.trans h1 hW, h2, h3⟩, h4.moved hW.alike, h5.moved hW.alike⟩
theorem pw_Z.call {U : State} {g : JFrame} {mk : MethodId} {a : Array Value} (h : pw_Z A U H) : pw_Z A (U.calling g mk a) H := by
  obtain ⟨⟨s0, a0, h1, h2, h3⟩, h4, h5⟩ := h
  exact ⟨⟨s0, a0, h1, h2, h3⟩, h4.moved (u := U) (U := U.calling g mk a) (Vm.Alike.refl U.vm), h5.moved (u := U) (U := U.calling g mk a) (Vm.Alike.refl U.vm)⟩
theorem pw_Z.cut (h : pw_Z A s s.heap) (hS : va_S A s.heap H locs) (hAB : ∀ q, B q → A q) : pw_Z B s H := by
  obtain ⟨h1, h4, h5⟩ := h
  exact ⟨h1, (h4.kept (fun a h0 hn => hS.2.1 a h0 hn)).narrow hAB, (h5.kept (fun a h0 hn => hS.2.1 a h0 hn)).narrow hAB⟩
theorem pw_Z.w (h : pw_Z A s H) {w : Cond} (hw : w ∈ pw_T) : w.before args s = true := by
  obtain ⟨⟨s0, a0, h1, h2, -⟩, -⟩ := h
  obtain ⟨a1, a2⟩ := List.mem_filter.mp hw
  exact word_at h1 (good_of_word a2) (h2 w a1)
theorem pw_Z.nF (h : pw_Z A s H) {a : String} {i : Nat} {b n d hh : String} (hw : Cond.fieldLinkNest a i b n d hh ∈ lw_tbl) : va_Nw (.fieldLinkNest a i b n d hh) s := by
  obtain ⟨⟨s0, a0, h1, h2, -⟩, -⟩ := h
  exact va_Nw.warmF h1 (va_Nw.of rfl (h2 _ hw))
theorem pw_Z.nM (h : pw_Z A s H) {a : String} {i : Nat} {x : MethodName} {hh : String} (hw : Cond.methodLinkNest a i x hh ∈ lw_tbl) : va_Nw (.methodLinkNest a i x hh) s := by
  obtain ⟨⟨s0, a0, h1, h2, -⟩, -⟩ := h
  exact va_Nw.warmM h1 (va_Nw.of rfl (h2 _ hw))
theorem pw_Z.nC (h : pw_Z A s H) {C T : String} (hw : Cond.castable C T ∈ lw_tbl) : va_Nw (.castable C T) s := by
  obtain ⟨⟨s0, a0, h1, h2, -⟩, -⟩ := h
  exact va_Nw.warmC h1 (va_Nw.of rfl (h2 _ hw))
theorem pw_Z.nD (h : pw_Z A s H) {x : MethodName} (hw : Cond.declares x ∈ lw_tbl) : va_Nw (.declares x) s := by
  obtain ⟨⟨s0, a0, h1, h2, -⟩, -⟩ := h
  exact va_Nw.warmD h1 (va_Nw.of rfl (h2 _ hw))
theorem pw_Z.ao (h : pw_Z A s H) {C : String} (hw : Cond.arrayOver (.object C) ∈ lw_tbl) : va_AO C s := by
  obtain ⟨⟨s0, a0, h1, h2, -⟩, -⟩ := h
  exact (va_AO.of (h2 _ hw)).moved h1.alike
theorem pw_str {o : String} {k : Nat} {tx : String} {a0 : Array Value} {s0 : State} (h : (Cond.stringRef o k tx).before a0 s0 = true) : ∃ a, vk_R o k tx a s0 := by
  cases hc : s0.vm.findClass o with
  | none => simp [Cond.before, Cond.holds, Cond.value, hc] at h
  | some cur =>
    obtain ⟨k9, cf, i, a, -, -, -, -, -, h2⟩ := Cond.stringRef_spec hc h
    exact ⟨a, vk_R.of h h2⟩
theorem pw_Z.str (h : pw_Z A s H) {o : String} {k : Nat} {tx : String} (hw : Cond.stringRef o k tx ∈ lw_tbl) : ∃ a, vk_R o k tx a s := by
  obtain ⟨⟨s0, a0, h1, h2, -⟩, -⟩ := h
  obtain ⟨a, ha⟩ := pw_str (h2 _ hw)
  exact ⟨a, ha.warm h1⟩
/-- what a walk holds of its cells -/
def pw_S (D : va_G) (tys : List (ClassId × FieldType)) (A : Nat → Prop) (ws : va_W) (s : State) (H : Heap) (locs : List Loc) : Prop :=
  va_K D vwCl tys s ∧ va_P D vwCl ws H ∧ va_D A ws ∧ va_S A s.heap H locs ∧ (∀ q : Nat, s.heap.size ≤ q → A q) ∧ pw_Z A s s.heap
theorem pw_S.to {ws' : va_W} (w : pw_S D tys A ws s H locs) (h : ws = ws') : pw_S D tys A ws' s H locs := h ▸ w
/-- a class of the worlds -/
def pw_C (ci : Nat) (C : String) (T : u_T) (N : Nat) (ty : Nat → FieldType) : Prop := vwCl[ci]? = some (C, T, N) ∧ (∀ w ∈ u_ws C T N, w ∈ pw_T) ∧ (∀ k, k < N → parseFieldDescriptor (T k).2.2.1 = some (ty k)) ∧ (∀ a, a < N → ∀ b, b < N → a ≠ b → (T a).2.1 ≠ (T b).2.1)
abbrev pw_Fx (p : Program) (m : MethodId) (c : Code) (cc : ByteArray) (nL : Nat) (s : State) (args : Array Value) (own : String) : Prop := CallFix p m c cc nL s args pw_T own
theorem pw_top {x y : Int32} (h : x = y) (k : W p l e R s m args below meth c H locs cells slots Q (F0 m pc ls (.int y :: rest))) : W p l e R s m args below meth c H locs cells slots Q (F0 m pc ls (.int x :: rest)) := h ▸ k
theorem pw_get (S : pw_Fx p m c cc nL s args own) (w : pw_S D tys A ws s H locs) {ci N : Nat} {C : String} {T : u_T} {ty : Nat → FieldType} (F : pw_C ci C T N ty) (q0 : Nat) {a : Nat} {fs : List Value} (he : ws[q0]? = some (a, .inr (ci, fs))) (k : Nat) (hk : k < N) {index : Nat}
    (hlink : Cond.fieldLink own index (T k).1 (T k).2.1 (T k).2.2.1 ∈ pw_T) {v : Value} (hv : fs[k]? = some v) (hdg : decode cc pc = .ok (.getfield index, 3))
    (kk : W p l e R s m args below meth c H locs cells slots Q (F0 m (pc + 3) ls (v :: rest))) : W p l e R s m args below meth c H locs cells slots Q (F0 m pc ls (.ref a :: rest)) :=
  va_get S.1 S.2.1 S.2.2.2.2 F.2.1 S.2.2.2.1 w.1 w.2.1 q0 he F.1 k hk (S.2.2.2.2 _ hlink) (fun _ h => h) hv hdg kk
theorem pw_getN (S : pw_Fx p m c cc nL s args own) (w : pw_S D tys A ws s H locs) {ci N : Nat} {C : String} {T : u_T} {ty : Nat → FieldType} (F : pw_C ci C T N ty) (q0 : Nat) {a : Nat} {fs : List Value} (he : ws[q0]? = some (a, .inr (ci, fs))) (k : Nat) (hk : k < N) {index : Nat} {host : String}
    (hlink : Cond.fieldLinkNest own index (T k).1 (T k).2.1 (T k).2.2.1 host ∈ lw_tbl) {v : Value} (hv : fs[k]? = some v) (hdg : decode cc pc = .ok (.getfield index, 3))
    (kk : W p l e R s m args below meth c H locs cells slots Q (F0 m (pc + 3) ls (v :: rest))) : W p l e R s m args below meth c H locs cells slots Q (F0 m pc ls (.ref a :: rest)) :=
  va_getN S.1 S.2.1 S.2.2.2.2 F.2.1 S.2.2.2.1 w.1 w.2.1 q0 he F.1 k hk (va_Nw.use rfl (w.2.2.2.2.2.nF hlink)) (fun _ h => h) hv hdg kk
theorem pw_put (S : pw_Fx p m c cc nL s args own) (w : pw_S D tys A ws s H locs) {ci N : Nat} {C : String} {T : u_T} {ty : Nat → FieldType} (F : pw_C ci C T N ty) (q0 : Nat) {a : Nat} {fs : List Value} (he : ws[q0]? = some (a, .inr (ci, fs))) (k : Nat) (hk : k < N) {index : Nat}
    (hlink : Cond.fieldLink own index (T k).1 (T k).2.1 (T k).2.2.1 ∈ pw_T) (hfin : (T k).2.2.2 = false) {v : Value} (hn : narrow (ty k) v = v) (hfit : fits (ty k) v = true) (hl : k < fs.length) (hdg : decode cc pc = .ok (.putfield index, 3))
    (kk : ∀ (H1 : Heap) (locs1 : List Loc), pw_S D tys A (ws.set q0 (a, .inr (ci, fs.set k v))) s H1 locs1 → W p l e R s m args below meth c H1 locs1 cells slots Q (F0 m (pc + 3) ls rest)) : W p l e R s m args below meth c H locs cells slots Q (F0 m pc ls (v :: .ref a :: rest)) :=
  va_put S.1 S.2.1 S.2.2.2.2 F.2.1 ty F.2.2.1 F.2.2.2 S.2.2.2.1 w.1 w.2.1 w.2.2.1 w.2.2.2.1 q0 he F.1 k hk (S.2.2.2.2 _ hlink) (fun _ h => h) hfin (F.2.2.1 k hk) hn hfit hl hdg (fun H1 locs1 hP hD hS => kk H1 locs1 ⟨w.1, hP, hD, hS, w.2.2.2.2⟩)
theorem pw_putF (S : pw_Fx p m c cc nL s args own) (w : pw_S D tys A ws s H locs) {ci N : Nat} {C : String} {T : u_T} {ty : Nat → FieldType} (F : pw_C ci C T N ty) (q0 : Nat) {a : Nat} {fs : List Value} (he : ws[q0]? = some (a, .inr (ci, fs))) (k : Nat) (hk : k < N) {index : Nat}
    (hlink : Cond.fieldLink own index (T k).1 (T k).2.1 (T k).2.2.1 ∈ pw_T) (hfin : (T k).2.2.2 = true) (hin2 : meth.name = "<init>") (hdecl : (T k).1 = own) {v : Value} (hn : narrow (ty k) v = v) (hfit : fits (ty k) v = true) (hl : k < fs.length) (hdg : decode cc pc = .ok (.putfield index, 3))
    (kk : ∀ (H1 : Heap) (locs1 : List Loc), pw_S D tys A (ws.set q0 (a, .inr (ci, fs.set k v))) s H1 locs1 → W p l e R s m args below meth c H1 locs1 cells slots Q (F0 m (pc + 3) ls rest)) : W p l e R s m args below meth c H locs cells slots Q (F0 m pc ls (v :: .ref a :: rest)) :=
  va_putF S.1 S.2.1 S.2.2.2.2 F.2.1 ty F.2.2.1 F.2.2.2 S.2.2.2.1 w.1 w.2.1 w.2.2.1 w.2.2.2.1 q0 he F.1 k hk (S.2.2.2.2 _ hlink) (fun _ h => h) hfin hin2 hdecl (F.2.2.1 k hk) hn hfit hl hdg (fun H1 locs1 hP hD hS => kk H1 locs1 ⟨w.1, hP, hD, hS, w.2.2.2.2⟩)
theorem pw_iald (S : pw_Fx p m c cc nL s args own) (w : pw_S D tys A ws s H locs) (q0 t0 : Nat) {a : Nat} {cA : ClassId} {n : Nat} {f : Nat → Int32} (ha : ws[q0]? = some (a, .inl (cA, n, .inl f))) (ht : tys[t0]? = some (cA, .int)) {j : Nat} (hj : j < n) (hn : n < 2 ^ 31) (hdg : decode cc pc = .ok (.iaload, 1))
    (kk : W p l e R s m args below meth c H locs cells slots Q (F0 m (pc + 1) ls (.int (f j) :: rest))) : W p l e R s m args below meth c H locs cells slots Q (F0 m pc ls (.int (nI j) :: .ref a :: rest)) := by
  refine va_iald S.1 S.2.1 w.1 w.2.1 q0 t0 ha ht (vp_in_nI hj hn) hdg ?_
  rw [nI_clamp (by omega)]
  exact kk
theorem pw_iast (S : pw_Fx p m c cc nL s args own) (w : pw_S D tys A ws s H locs) (q0 t0 : Nat) {a : Nat} {cA : ClassId} {n : Nat} {f : Nat → Int32} (ha : ws[q0]? = some (a, .inl (cA, n, .inl f))) (ht : tys[t0]? = some (cA, .int)) {j : Nat} {x : Int32} (hj : j < n) (hn : n < 2 ^ 31) (hdg : decode cc pc = .ok (.iastore, 1))
    (kk : ∀ (H1 : Heap) (locs1 : List Loc), pw_S D tys A (ws.set q0 (a, .inl (cA, n, .inl (upd f j x)))) s H1 locs1 → W p l e R s m args below meth c H1 locs1 cells slots Q (F0 m (pc + 1) ls rest)) : W p l e R s m args below meth c H locs cells slots Q (F0 m pc ls (.int x :: .int (nI j) :: .ref a :: rest)) := by
  refine va_iast S.1 S.2.1 w.1 w.2.1 w.2.2.1 w.2.2.2.1 q0 t0 ha ht (vp_in_nI hj hn) hdg ?_
  rw [nI_clamp (by omega)]
  exact fun H1 locs1 hP hD hS => kk H1 locs1 ⟨w.1, hP, hD, hS, w.2.2.2.2⟩
theorem pw_aald (S : pw_Fx p m c cc nL s args own) (w : pw_S D tys A ws s H locs) (q0 t0 : Nat) {a : Nat} {cA : ClassId} {C : String} {n v : Nat} {f : Nat → Option Nat} (ha : ws[q0]? = some (a, .inl (cA, n, .inr (.inr (.inr (.inr f)))))) (ht : tys[t0]? = some (cA, .object C)) {j : Nat} (hj : j < n) (hn : n < 2 ^ 31) (hv : f j = some v) (hdg : decode cc pc = .ok (.aaload, 1))
    (kk : W p l e R s m args below meth c H locs cells slots Q (F0 m (pc + 1) ls (.ref v :: rest))) : W p l e R s m args below meth c H locs cells slots Q (F0 m pc ls (.int (nI j) :: .ref a :: rest)) := by
  refine va_aldq S.1 S.2.1 w.1 w.2.1 q0 t0 ha ht (vp_in_nI hj hn) hdg ?_
  rw [nI_clamp (by omega), hv]
  exact kk
theorem pw_aast (S : pw_Fx p m c cc nL s args own) (w : pw_S D tys A ws s H locs) (q0 t0 qk ci : Nat) {a : Nat} {cA : ClassId} {r : vw_C} {n v : Nat} {vs : List Value} {f : Nat → Option Nat} (ha : ws[q0]? = some (a, .inl (cA, n, .inr (.inr (.inr (.inr f)))))) (ht : tys[t0]? = some (cA, .object r.1)) (hv : ws[qk]? = some (v, .inr (ci, vs))) (hc : vwCl[ci]? = some r) {j : Nat} (hj : j < n) (hn : n < 2 ^ 31) (hdg : decode cc pc = .ok (.aastore, 1))
    (kk : ∀ (H1 : Heap) (locs1 : List Loc), pw_S D tys A (ws.set q0 (a, .inl (cA, n, .inr (.inr (.inr (.inr (va_up f j (some v)))))))) s H1 locs1 → W p l e R s m args below meth c H1 locs1 cells slots Q (F0 m (pc + 1) ls rest)) : W p l e R s m args below meth c H locs cells slots Q (F0 m pc ls (.ref v :: .int (nI j) :: .ref a :: rest)) := by
  refine va_astq S.1 S.2.1 w.1 w.2.1 w.2.2.1 w.2.2.2.1 q0 t0 qk ci ha ht hv hc (vp_in_nI hj hn) hdg ?_
  rw [nI_clamp (by omega)]
  exact fun H1 locs1 hP hD hS => kk H1 locs1 ⟨w.1, hP, hD, hS, w.2.2.2.2⟩
/-! contracts -/
def pw_Pc (D : va_G) (tys : List (ClassId × FieldType)) (av : List Value) (w0 : va_W) (sz : Nat) : Array Value → State → Prop :=
  va_Pc av (fun U => U.heap.size = sz ∧ va_P D vwCl w0 U.heap ∧ va_K D vwCl tys U ∧ va_D (fun _ => True) w0 ∧ pw_Z (va_A w0 sz) U U.heap)
theorem pw_blind {av : List Value} {w0 : va_W} {sz : Nat} : FrameBlind (pw_Pc D tys av w0 sz) := by
  intro a U g mk q
  obtain ⟨q0, q1, qP, qK, qD, qZ⟩ := q
  exact ⟨q0, q1, qP, va_K.moved (u := U) (U := U.calling g mk a) (Vm.Alike.refl U.vm) qK, qD, qZ.call⟩
def pw_B (D : va_G) {σ : Type} (W1 : σ → va_W) (T1 : σ → List (ClassId × FieldType)) (B : Nat → Prop) : σ → State → Prop := fun u t => va_P D vwCl (W1 u) t.heap ∧ va_K D vwCl (T1 u) t ∧ va_D B (W1 u)
abbrev pw_Mi (l : Launch) (y : MethodName) (cc : ByteArray) (mL : Nat) (rt : FieldType) (rm : Room) (D : va_G) (tys : List (ClassId × FieldType)) (av : List Value) (w0 : va_W) (sz : Nat) {σ : Type} (post : Int32 → σ → Prop) (W1 : σ → va_W) (mc ms : Nat) : Prop :=
  Met l y [.code y cc mL (some rt)] rm (pw_Pc D tys av w0 sz) (va_Qi post (pw_B D W1 (fun _ => tys) (va_A w0 sz)) (va_A w0 sz)) mc ms (va_A w0 sz)
abbrev pw_Mv (l : Launch) (y : MethodName) (cc : ByteArray) (mL : Nat) (rm : Room) (D : va_G) (tys : List (ClassId × FieldType)) (av : List Value) (w0 : va_W) (sz : Nat) {σ : Type} (post : σ → Prop) (W1 : σ → va_W) (T1 : σ → List (ClassId × FieldType)) (mc ms : Nat) : Prop :=
  Met l y [.code y cc mL none] rm (pw_Pc D tys av w0 sz) (va_Qv post (pw_B D W1 T1 (va_A w0 sz)) (va_A w0 sz)) mc ms (va_A w0 sz)
theorem pw_openI {y : MethodName} {mL : Nat} {rt : FieldType} {rm : Room} {av : List Value} {w0 : va_W} {sz : Nat} {σ : Type} {post : Int32 → σ → Prop} {W1 : σ → va_W} (hy : plainName y.cls = true) (hav : (lg_sl av).length ≤ mL)
    (body : ∀ (p : Program) (e : Env) (s : State) (m : MethodId) (below : List Frame) (meth : Method) (c : Code) (ls : Array Slot), pw_Fx p m c cc mL s av.toArray y.cls → meth.sig.returnType = some rt → meth.locks = false → lv_has ls mL (lv_args 0 av) → s.heap.size = sz → pw_S D tys (va_A w0 sz) w0 s s.heap [] →
      W p l e rm s m av.toArray below meth c s.heap [] 0 0 (MQ below (va_Qi post (pw_B D W1 (fun _ => tys) (va_A w0 sz)) (va_A w0 sz)) av.toArray s mc ms (va_A w0 sz)) (F0 m 0 ls [])) : pw_Mi l y cc mL rt rm D tys av w0 sz post W1 mc ms := by
  refine Met.ofW (cc := cc) (maxL := mL) (ret := some rt) hy rfl ?_
  intro p e s m args below meth c s₁ B hml hv
  obtain ⟨rfl, hsz, hP, hK, hD0, hZ⟩ := hv
  rw [lg_entry_eq]
  exact body p e s m below meth c _ ⟨B.exec, B.bytes, hml, findClass_of_methodNamed B.named, fun w h => hZ.w h⟩ B.returns B.notSynchronized (lv_entry av hav) hsz ⟨hK, hP, hD0.self, va_S.rf, fun q h => Or.inr (hsz ▸ h), hZ⟩
theorem pw_openV {y : MethodName} {mL : Nat} {rm : Room} {av : List Value} {w0 : va_W} {sz : Nat} {σ : Type} {post : σ → Prop} {W1 : σ → va_W} {T1 : σ → List (ClassId × FieldType)} (hy : plainName y.cls = true) (hav : (lg_sl av).length ≤ mL)
    (body : ∀ (p : Program) (e : Env) (s : State) (m : MethodId) (below : List Frame) (meth : Method) (c : Code) (ls : Array Slot), pw_Fx p m c cc mL s av.toArray y.cls → meth.sig.returnType = none → meth.locks = false → meth.name = y.name → lv_has ls mL (lv_args 0 av) → s.heap.size = sz → pw_S D tys (va_A w0 sz) w0 s s.heap [] →
      W p l e rm s m av.toArray below meth c s.heap [] 0 0 (MQ below (va_Qv post (pw_B D W1 T1 (va_A w0 sz)) (va_A w0 sz)) av.toArray s mc ms (va_A w0 sz)) (F0 m 0 ls [])) : pw_Mv l y cc mL rm D tys av w0 sz post W1 T1 mc ms := by
  refine Met.ofW (cc := cc) (maxL := mL) (ret := none) hy rfl ?_
  intro p e s m args below meth c s₁ B hml hv
  obtain ⟨rfl, hsz, hP, hK, hD0, hZ⟩ := hv
  rw [lg_entry_eq]
  exact body p e s m below meth c _ ⟨B.exec, B.bytes, hml, findClass_of_methodNamed B.named, fun w h => hZ.w h⟩ B.returns B.notSynchronized (name_of_methodNamed B.named B.method).1 (lv_entry av hav) hsz ⟨hK, hP, hD0.self, va_S.rf, fun q h => Or.inr (hsz ▸ h), hZ⟩
/-! ends -/
theorem pw_reti {σ : Type} {post : Int32 → σ → Prop} {W1 : σ → va_W} (S : pw_Fx p m c cc nL s args own) (hr : meth.sig.returnType = some .int) (hlk : meth.locks = false) (u : σ) {v : Int32} (w : pw_S D tys A (W1 u) s H locs) (hp : post v u) (h1 : cells ≤ mc) (h2 : slots ≤ ms) (hdg : decode cc pc = .ok (.ireturn, 1)) :
    W p l e R s m args below meth c H locs cells slots (MQ below (va_Qi post (pw_B D W1 (fun _ => tys) A) A) args s mc ms A) (F0 m pc ls [.int v]) := by
  refine W.widen h1 h2 ?_
  exact W.iret S.1 S.2.1 hr (fun t ht hW => ⟨⟨v, u, rfl, hp, by rw [ht]; exact w.2.1, va_K.moved hW.alike w.1, w.2.2.1⟩, w.2.2.2.1.F ht⟩) w.2.2.2.1.2.2 hdg hlk
theorem pw_retz {σ : Type} {post : Int32 → σ → Prop} {W1 : σ → va_W} (S : pw_Fx p m c cc nL s args own) (hr : meth.sig.returnType = some .boolean) (hlk : meth.locks = false) (u : σ) {v : Int32} (hv : narrow .boolean (.int v) = .int v) (w : pw_S D tys A (W1 u) s H locs) (hp : post v u) (h1 : cells ≤ mc) (h2 : slots ≤ ms) (hdg : decode cc pc = .ok (.ireturn, 1)) :
    W p l e R s m args below meth c H locs cells slots (MQ below (va_Qi post (pw_B D W1 (fun _ => tys) A) A) args s mc ms A) (F0 m pc ls [.int v]) := by
  refine W.widen h1 h2 ?_
  exact W.zret S.1 S.2.1 hr hv (fun t ht hW => ⟨⟨v, u, rfl, hp, by rw [ht]; exact w.2.1, va_K.moved hW.alike w.1, w.2.2.1⟩, w.2.2.2.1.F ht⟩) w.2.2.2.1.2.2 hdg hlk
theorem pw_retv {σ : Type} {post : σ → Prop} {W1 : σ → va_W} {T1 : σ → List (ClassId × FieldType)} (S : pw_Fx p m c cc nL s args own) (hr : meth.sig.returnType = none) (hlk : meth.locks = false) (u : σ) (w : pw_S D (T1 u) A (W1 u) s H locs) (hp : post u) (h1 : cells ≤ mc) (h2 : slots ≤ ms) (hdg : decode cc pc = .ok (.return_, 1)) :
    W p l e R s m args below meth c H locs cells slots (MQ below (va_Qv post (pw_B D W1 T1 A) A) args s mc ms A) (F0 m pc ls []) := by
  refine W.widen h1 h2 ?_
  exact W.vret S.1 S.2.1 hr (fun t ht hW => ⟨⟨u, rfl, hp, by rw [ht]; exact w.2.1, va_K.moved hW.alike w.1, w.2.2.1⟩, w.2.2.2.1.F ht⟩) w.2.2.2.1.2.2 hdg hlk
/-! worlds as lists of cells: a part goes to a callee, the rest stays -/
theorem pw_P {cl : List vw_C} : va_P D cl ws H ↔ ∀ q ∈ ws, va_at D cl q H :=
  ⟨fun h q hq => by obtain ⟨k, hk⟩ := List.getElem?_of_mem hq; exact h k q hk, fun h k q hk => h q (List.mem_of_getElem? hk)⟩
theorem pw_D : va_D A ws ↔ (ws.map Prod.fst).Nodup ∧ ∀ q ∈ ws, A q.1 := by
  constructor
  · intro h
    refine ⟨List.pairwise_iff_getElem.mpr (fun i j hi hj hij he => ?_), fun q hq => ?_⟩
    · simp only [List.length_map] at hi hj
      simp only [List.getElem_map] at he
      have := h.1 i j ws[i] ws[j] (List.getElem?_eq_getElem hi) (List.getElem?_eq_getElem hj) he
      omega
    · obtain ⟨k, hk⟩ := List.getElem?_of_mem hq
      exact h.2 k q hk
  · rintro ⟨h1, h2⟩
    refine ⟨fun i j p q hi hj he => ?_, fun k q hk => h2 q (List.mem_of_getElem? hk)⟩
    obtain ⟨hi', ei⟩ := List.getElem?_eq_some_iff.mp hi
    obtain ⟨hj', ej⟩ := List.getElem?_eq_some_iff.mp hj
    have hw := List.pairwise_iff_getElem.mp h1
    rcases Nat.lt_trichotomy i j with h | h | h
    · exact (hw i j (by simpa using hi') (by simpa using hj') h (by simp [ei, ej, he])).elim
    · exact h
    · exact (hw j i (by simpa using hj') (by simpa using hi') h (by simp [ei, ej, he])).elim
theorem pw_A {q : Nat} {sz : Nat} : va_A ws sz q ↔ (∃ x ∈ ws, x.1 = q) ∨ sz ≤ q := by
  unfold va_A
  constructor
  · rintro (⟨k, e9, h⟩ | h)
    · exact Or.inl ⟨_, List.mem_of_getElem? h, rfl⟩
    · exact Or.inr h
  · rintro (⟨x, hx, rfl⟩ | h)
    · obtain ⟨k, hk⟩ := List.getElem?_of_mem hx
      exact Or.inl ⟨k, x.2, hk⟩
    · exact Or.inr h
theorem pw_free (w : pw_S D tys A (wa ++ (wb ++ wc)) s H locs) : ∀ q, va_A wb H.size q → A q := by
  intro q h
  rcases pw_A.mp h with ⟨x, hx, rfl⟩ | h
  · exact (pw_D.mp w.2.2.1).2 x (by simp [hx])
  · exact w.2.2.2.2.1 q (Nat.le_trans w.2.2.2.1.1 h)
theorem pw_pre {tc : List (ClassId × FieldType)} {av : List Value} (w : pw_S D tys A (wa ++ (wb ++ wc)) s H locs) (hK : va_K D vwCl tc s) : ∀ U : State, U.heap = H → s.WarmedH U.vm → pw_Pc D tc av wb H.size av.toArray U := by
  intro U hU hW
  refine ⟨rfl, by rw [hU], ?_, va_K.moved hW.alike hK, ?_, ?_⟩
  · rw [hU]
    exact pw_P.mpr (fun q hq => pw_P.mp w.2.1 q (by simp [hq]))
  · refine pw_D.mpr ⟨?_, fun _ _ => trivial⟩
    have h := (pw_D.mp w.2.2.1).1
    simp only [List.map_append] at h
    exact (List.nodup_append.mp (List.nodup_append.mp h).2.1).1
  · rw [hU]
    exact (w.2.2.2.2.2.cut w.2.2.2.1 (pw_free w)).warm hW
theorem pw_post {σ : Type} {W1 : σ → va_W} {T1 : σ → List (ClassId × FieldType)} {u : σ} {t : State} {H1 : Heap} {locs1 : List Loc} (w : pw_S D tys A (wa ++ (wb ++ wc)) s H locs) (ht : t.heap = H1) (hk : ∀ q : Nat, q < H.size → ¬ va_A wb H.size q → H1[q]? = H[q]?) (hS : va_S A s.heap H1 locs1) (hB : pw_B D W1 T1 (va_A wb H.size) u t) :
    pw_S D tys A (wa ++ (W1 u ++ wc)) s H1 locs1 := by
  obtain ⟨hP1, -, hD1⟩ := hB
  rw [ht] at hP1
  have hP := pw_P.mp w.2.1
  have hD := pw_D.mp w.2.2.1
  have hnd := hD.1
  simp only [List.map_append] at hnd
  obtain ⟨na, nbc, dab⟩ := List.nodup_append.mp hnd
  obtain ⟨nb, nc, dbc⟩ := List.nodup_append.mp nbc
  have hlt : ∀ q ∈ wa ++ (wb ++ wc), q.1 < H.size := fun q hq => (hP q hq).lt
  have out : ∀ q, q ∈ wa ∨ q ∈ wc → ¬ va_A wb H.size q.1 := by
    intro q hq h
    rcases pw_A.mp h with ⟨x, hx, hxq⟩ | h
    · rcases hq with hq | hq
      · exact dab q.1 (List.mem_map.mpr ⟨q, hq, rfl⟩) x.1 (List.mem_append_left _ (List.mem_map.mpr ⟨x, hx, rfl⟩)) hxq.symm
      · exact dbc x.1 (List.mem_map.mpr ⟨x, hx, rfl⟩) q.1 (List.mem_map.mpr ⟨q, hq, rfl⟩) hxq
    · have : q.1 < H.size := by
        rcases hq with hq | hq
        · exact hlt q (by simp [hq])
        · exact hlt q (by simp [hq])
      omega
  have keep : ∀ q, q ∈ wa ∨ q ∈ wc → va_at D vwCl q H1 := by
    intro q hq
    have hm : q ∈ wa ++ (wb ++ wc) := by rcases hq with hq | hq <;> simp [hq]
    exact (hP q hm).kept (hk q.1 (hlt q hm) (out q hq))
  have hD1' := pw_D.mp hD1
  refine ⟨w.1, pw_P.mpr (fun q hq => ?_), pw_D.mpr ⟨?_, fun q hq => ?_⟩, hS, w.2.2.2.2⟩
  · rcases List.mem_append.mp hq with h | h
    · exact keep q (Or.inl h)
    · rcases List.mem_append.mp h with h | h
      · exact pw_P.mp hP1 q h
      · exact keep q (Or.inr h)
  · simp only [List.map_append]
    refine List.nodup_append.mpr ⟨na, List.nodup_append.mpr ⟨hD1'.1, nc, ?_⟩, ?_⟩
    · intro a ha b hb hab
      obtain ⟨x, hx, rfl⟩ := List.mem_map.mp ha
      obtain ⟨z, hz, rfl⟩ := List.mem_map.mp hb
      exact out z (Or.inr hz) (hab ▸ hD1'.2 x hx)
    · intro a ha b hb hab
      obtain ⟨x, hx, rfl⟩ := List.mem_map.mp ha
      rcases List.mem_append.mp hb with hb | hb
      · obtain ⟨z, hz, rfl⟩ := List.mem_map.mp hb
        exact out x (Or.inl hx) (hab ▸ hD1'.2 z hz)
      · exact dab x.1 (List.mem_map.mpr ⟨x, hx, rfl⟩) b (List.mem_append_right _ hb) hab
  · rcases List.mem_append.mp hq with h | h
    · exact hD.2 q (by simp [h])
    · rcases List.mem_append.mp h with h | h
      · exact pw_free w q.1 (hD1'.2 q h)
      · exact hD.2 q (by simp [h])
variable {st0 : List Value} {a : Array Value}
theorem pw_goi {σ : Type} {post : Int32 → σ → Prop} {W1 : σ → va_W} {T1 : σ → List (ClassId × FieldType)} (w : pw_S D tys A (wa ++ (wb ++ wc)) s H locs) (hr : va_Run p l e R s m args below meth c H locs cells slots mc ms (F0 m pc ls st0) rest (va_Qi post (pw_B D W1 T1 (va_A wb H.size)) (va_A wb H.size) a) (va_A wb H.size))
    (kk : ∀ (r : Int32) (u : σ) (H1 : Heap) (locs1 : List Loc), post r u → pw_S D tys A (wa ++ (W1 u ++ wc)) s H1 locs1 → W p l e R s m args below meth c H1 locs1 (cells + mc) (slots + ms) Q (F0 m (pc + 3) ls (.int r :: rest))) : W p l e R s m args below meth c H locs cells slots Q (F0 m pc ls st0) :=
  va_calli hr w.2.2.2.1 (fun q _ h => pw_free w q h) (pw_free w) (fun r u t H1 locs1 ht _ hp hB _ hk hS => kk r u H1 locs1 hp (pw_post w ht hk hS hB))
theorem pw_gov {σ : Type} {post : σ → Prop} {W1 : σ → va_W} {T1 : σ → List (ClassId × FieldType)} (w : pw_S D tys A (wa ++ (wb ++ wc)) s H locs) (hr : va_Run p l e R s m args below meth c H locs cells slots mc ms (F0 m pc ls st0) rest (va_Qv post (pw_B D W1 T1 (va_A wb H.size)) (va_A wb H.size) a) (va_A wb H.size))
    (kk : ∀ (u : σ) (H1 : Heap) (locs1 : List Loc), post u → va_K D vwCl (T1 u) s → pw_S D tys A (wa ++ (W1 u ++ wc)) s H1 locs1 → W p l e R s m args below meth c H1 locs1 (cells + mc) (slots + ms) Q (F0 m (pc + 3) ls rest)) : W p l e R s m args below meth c H locs cells slots Q (F0 m pc ls st0) :=
  va_callv hr w.2.2.2.1 (fun q _ h => pw_free w q h) (pw_free w) (fun u t H1 locs1 ht hvm hp hB _ hk hS => kk u H1 locs1 hp (va_K.moved hvm.symm hB.2.1) (pw_post w ht hk hS hB))
/-- the whole world goes along -/
theorem pw_S.all (w : pw_S D tys A ws s H locs) : pw_S D tys A ([] ++ (ws ++ [])) s H locs := w.to (by simp)
theorem pw_S.one (w : pw_S D tys A ([] ++ (ws ++ [])) s H locs) : pw_S D tys A ws s H locs := w.to (by simp)
/-- a call's words -/
theorem pw_cw {y : MethodName} {bytes : ByteArray} {maxL n index : Nat} {ret : Option FieldType} {rm : Room} {C : String} (S : pw_Fx p m c cc nL s args own) (hl : Cond.methodLink own index y ∈ pw_T) (hi : Cond.instanceMethod y ∈ pw_T) (hse : Cond.selects C y y ∈ pw_T) (hini : Cond.initialized y.cls ∈ pw_T) (hcode : Cond.code y bytes maxL ret ∈ pw_T) (hrc : rm.cells = mc) (hrs : rm.slots = ms)
    (hd : y.cls ≠ "java/lang/invoke/MethodHandle" ∧ y.cls ≠ "java/lang/invoke/VarHandle" ∧ (parseMethodDescriptor y.desc).map (fun d => d.parameters.length) = some n) (hR : rm.frames + 1 ≤ R.frames ∧ 8 + (maxL + 11) + rm.locals ≤ R.locals) :
    CallW R s args own C index y bytes maxL ret [.code y bytes maxL ret] rm mc ms n := by
  have hG : GoodIn pw_T [.code y bytes maxL ret] := fun w h => by
    rw [List.mem_singleton.mp h]
    exact ⟨hcode, good_of_word (List.mem_filter.mp hcode).2⟩
  exact ⟨callB_of n S.2.2.2.2 hG rfl hrc hrs (S.2.2.2.2 _ hini) (S.2.2.2.2 _ hl) hd hR, S.2.2.2.2 _ hi, S.2.2.2.2 _ hse⟩
theorem pw_cs {y : MethodName} {bytes : ByteArray} {maxL n index : Nat} {ret : Option FieldType} {rm : Room} (S : pw_Fx p m c cc nL s args own) (hl : Cond.methodLink own index y ∈ pw_T) (hi : Cond.static y ∈ pw_T) (hini : Cond.initialized y.cls ∈ pw_T) (hcode : Cond.code y bytes maxL ret ∈ pw_T) (hrc : rm.cells = mc) (hrs : rm.slots = ms)
    (hd : y.cls ≠ "java/lang/invoke/MethodHandle" ∧ y.cls ≠ "java/lang/invoke/VarHandle" ∧ (parseMethodDescriptor y.desc).map (fun d => d.parameters.length) = some n) (hR : rm.frames + 1 ≤ R.frames ∧ 8 + (maxL + 11) + rm.locals ≤ R.locals) :
    CallB R s args own index y bytes maxL ret [.code y bytes maxL ret] rm mc ms n ∧ (Cond.static y).before args s = true := by
  have hG : GoodIn pw_T [.code y bytes maxL ret] := fun w h => by
    rw [List.mem_singleton.mp h]
    exact ⟨hcode, good_of_word (List.mem_filter.mp hcode).2⟩
  exact ⟨callB_of n S.2.2.2.2 hG rfl hrc hrs (S.2.2.2.2 _ hini) (S.2.2.2.2 _ hl) hd hR, S.2.2.2.2 _ hi⟩
theorem pw_ci {y : MethodName} {bytes : ByteArray} {maxL n index : Nat} {rm : Room} (S : pw_Fx p m c cc nL s args own) (hl : Cond.methodLink own index y ∈ pw_T) (hi : Cond.instanceMethod y ∈ pw_T) (hini : Cond.initialized y.cls ∈ pw_T) (hcode : Cond.code y bytes maxL none ∈ pw_T) (hrc : rm.cells = mc) (hrs : rm.slots = ms) (hy1 : y.name = "<init>")
    (hd : y.cls ≠ "java/lang/invoke/MethodHandle" ∧ y.cls ≠ "java/lang/invoke/VarHandle" ∧ (parseMethodDescriptor y.desc).map (fun d => d.parameters.length) = some n) (hR : rm.frames + 1 ≤ R.frames ∧ 8 + (maxL + 11) + rm.locals ≤ R.locals) :
    CallB R s args own index y bytes maxL none [.code y bytes maxL none] rm mc ms n ∧ y.name = "<init>" ∧ (Cond.instanceMethod y).before args s = true := by
  have hG : GoodIn pw_T [.code y bytes maxL none] := fun w h => by
    rw [List.mem_singleton.mp h]
    exact ⟨hcode, good_of_word (List.mem_filter.mp hcode).2⟩
  exact ⟨callB_of n S.2.2.2.2 hG rfl hrc hrs (S.2.2.2.2 _ hini) (S.2.2.2.2 _ hl) hd hR, hy1, S.2.2.2.2 _ hi⟩
theorem pw_cn {y : MethodName} {bytes : ByteArray} {maxL n index : Nat} {ret : Option FieldType} {rm : Room} {host : String} (S : pw_Fx p m c cc nL s args own) (hZ : pw_Z A s s.heap) (hl : Cond.methodLinkNest own index y host ∈ lw_tbl) (hini : Cond.initialized y.cls ∈ pw_T) (hcode : Cond.code y bytes maxL ret ∈ pw_T) (hrc : rm.cells = mc) (hrs : rm.slots = ms)
    (hd : y.cls ≠ "java/lang/invoke/MethodHandle" ∧ y.cls ≠ "java/lang/invoke/VarHandle" ∧ (parseMethodDescriptor y.desc).map (fun d => d.parameters.length) = some n) (hR : rm.frames + 1 ≤ R.frames ∧ 8 + (maxL + 11) + rm.locals ≤ R.locals) :
    va_CN R s args own index y host bytes maxL ret [.code y bytes maxL ret] rm mc ms n := by
  have hG : GoodIn pw_T [.code y bytes maxL ret] := fun w h => by
    rw [List.mem_singleton.mp h]
    exact ⟨hcode, good_of_word (List.mem_filter.mp hcode).2⟩
  exact va_cnB n S.2.2.2.2 hG rfl hrc hrs (hZ.nM hl) (S.2.2.2.2 _ hini) hd hR
/-- calls that make nothing -/
theorem pw_goi0 {σ : Type} {post : Int32 → σ → Prop} {W1 : σ → va_W} {T1 : σ → List (ClassId × FieldType)} (w : pw_S D tys A (wa ++ (wb ++ wc)) s H locs) (hr : va_Run p l e R s m args below meth c H locs cells slots 0 0 (F0 m pc ls st0) rest (va_Qi post (pw_B D W1 T1 (va_A wb H.size)) (va_A wb H.size) a) (va_A wb H.size))
    (kk : ∀ (r : Int32) (u : σ) (H1 : Heap) (locs1 : List Loc), post r u → pw_S D tys A (wa ++ (W1 u ++ wc)) s H1 locs1 → W p l e R s m args below meth c H1 locs1 cells slots Q (F0 m (pc + 3) ls (.int r :: rest))) : W p l e R s m args below meth c H locs cells slots Q (F0 m pc ls st0) := pw_goi w hr kk
theorem pw_gov0 {σ : Type} {post : σ → Prop} {W1 : σ → va_W} {T1 : σ → List (ClassId × FieldType)} (w : pw_S D tys A (wa ++ (wb ++ wc)) s H locs) (hr : va_Run p l e R s m args below meth c H locs cells slots 0 0 (F0 m pc ls st0) rest (va_Qv post (pw_B D W1 T1 (va_A wb H.size)) (va_A wb H.size) a) (va_A wb H.size))
    (kk : ∀ (u : σ) (H1 : Heap) (locs1 : List Loc), post u → va_K D vwCl (T1 u) s → pw_S D tys A (wa ++ (W1 u ++ wc)) s H1 locs1 → W p l e R s m args below meth c H1 locs1 cells slots Q (F0 m (pc + 3) ls rest)) : W p l e R s m args below meth c H locs cells slots Q (F0 m pc ls st0) := pw_gov w hr kk
/-! what is made -/
theorem pw_oinit (S : pw_Fx p m c cc nL s args own) {idx x : Nat} (h1 : Cond.methodLink own idx Lib.objectInit ∈ pw_T) (h2 : Cond.instanceMethod Lib.objectInit ∈ pw_T) (h3 : Cond.code Lib.objectInit ⟨#[0xb1]⟩ 1 none ∈ pw_T) (hls : ls.size = nL) (hR : 1 ≤ R.frames) (hR2 : (rest.map fun v => v.category).sum + 12 ≤ R.locals) (hdg : decode cc pc = .ok (.invokespecial idx, 3))
    (kk : W p l e R s m args below meth c H locs cells slots Q (F0 m (pc + 3) ls rest)) : W p l e R s m args below meth c H locs cells slots Q (F0 m pc ls (.ref x :: rest)) :=
  W.objInit S.1 S.2.1 S.2.2.2.1 (S.2.2.2.2 _ h1) (S.2.2.2.2 _ h2) (S.2.2.2.2 _ h3) rfl (by rw [S.2.2.1]; exact hls) rfl hdg hR (show 2 * 0 + _ + 12 ≤ _ by omega) kk
theorem pw_newi (S : pw_Fx p m c cc nL s args own) (w : pw_S D tys A ws s H locs) (harr : Cond.arrayClass .int ∈ pw_T) {n : Int32} {N : Nat} (hn : ¬ n < 0) (hN : n.toNatClampNeg = N) (hbytes : N * componentBytes .int ≤ 536870912) (hcells : cells + 1 ≤ R.cells) (hslots : slots + N ≤ R.slots) (hdg : decode cc pc = .ok (.newarray .int, 2))
    (kk : ∀ (q : Nat) (cA : ClassId) (H1 : Heap), pw_S D (tys ++ [(cA, .int)]) A (ws ++ [(q, .inl (cA, N, .inl (fun _ => 0)))]) s H1 locs → W p l e R s m args below meth c H1 locs (cells + 1) (slots + N) Q (F0 m (pc + 2) ls (.ref q :: rest))) : W p l e R s m args below meth c H locs cells slots Q (F0 m pc ls (.int n :: rest)) :=
  va_newa (atype := .int) S.1 S.2.1 (S.2.2.2.2 _ harr) rfl w.1 w.2.1 w.2.2.1 w.2.2.2.1 w.2.2.2.2.1 (a0 := (N, .inl (fun _ => 0))) (fun _ => rfl) hn hN hbytes hcells hslots hdg (fun q cA H1 hK hP hD hS => kk q cA H1 ⟨hK, hP, hD, hS, w.2.2.2.2⟩)
theorem pw_newl (S : pw_Fx p m c cc nL s args own) (w : pw_S D tys A ws s H locs) (harr : Cond.arrayClass .long ∈ pw_T) {n : Int32} {N : Nat} (hn : ¬ n < 0) (hN : n.toNatClampNeg = N) (hbytes : N * componentBytes .long ≤ 536870912) (hcells : cells + 1 ≤ R.cells) (hslots : slots + N ≤ R.slots) (hdg : decode cc pc = .ok (.newarray .long, 2))
    (kk : ∀ (q : Nat) (cA : ClassId) (H1 : Heap), pw_S D (tys ++ [(cA, .long)]) A (ws ++ [(q, .inl (cA, N, .inr (.inl (fun _ => 0))))]) s H1 locs → W p l e R s m args below meth c H1 locs (cells + 1) (slots + N) Q (F0 m (pc + 2) ls (.ref q :: rest))) : W p l e R s m args below meth c H locs cells slots Q (F0 m pc ls (.int n :: rest)) :=
  va_newa (atype := .long) S.1 S.2.1 (S.2.2.2.2 _ harr) rfl w.1 w.2.1 w.2.2.1 w.2.2.2.1 w.2.2.2.2.1 (a0 := (N, .inr (.inl (fun _ => 0)))) (fun _ => rfl) hn hN hbytes hcells hslots hdg (fun q cA H1 hK hP hD hS => kk q cA H1 ⟨hK, hP, hD, hS, w.2.2.2.2⟩)
theorem pw_newr (S : pw_Fx p m c cc nL s args own) (w : pw_S D tys A ws s H locs) {C : String} {index : Nat} (hcl : Cond.classLink own index C ∈ pw_T) (hao : va_AO C s) {n : Int32} {N : Nat} (hn : ¬ n < 0) (hN : n.toNatClampNeg = N) (hbytes : N * 4 ≤ 536870912) (hcells : cells + 1 ≤ R.cells) (hslots : slots + N ≤ R.slots) (hdg : decode cc pc = .ok (.anewarray index, 3))
    (kk : ∀ (q : Nat) (cA : ClassId) (H1 : Heap), pw_S D (tys ++ [(cA, .object C)]) A (ws ++ [(q, .inl (cA, N, .inr (.inr (.inr (.inr (fun _ => none))))))]) s H1 locs → W p l e R s m args below meth c H1 locs (cells + 1) (slots + N) Q (F0 m (pc + 3) ls (.ref q :: rest))) : W p l e R s m args below meth c H locs cells slots Q (F0 m pc ls (.int n :: rest)) :=
  va_newq S.1 S.2.1 S.2.2.2.1 (S.2.2.2.2 _ hcl) hao w.1 w.2.1 w.2.2.1 w.2.2.2.1 w.2.2.2.2.1 hn hN hbytes hcells hslots hdg (fun q cA H1 hK hP hD hS => kk q cA H1 ⟨hK, hP, hD, hS, w.2.2.2.2⟩)
theorem pw_new (S : pw_Fx p m c cc nL s args own) (w : pw_S D tys A ws s H locs) {ci N : Nat} {C : String} {T : u_T} {ty : Nat → FieldType} (F : pw_C ci C T N ty) {index : Nat} (hcl : Cond.classLink own index C ∈ pw_T) (hi : Cond.instantiable C N ∈ pw_T) (hini : Cond.initialized C ∈ pw_T) {fs : List Value} (hfs : ∀ j, j < N → defaultValue (ty j) = vp_V fs j) (hcells : cells + 1 ≤ R.cells) (hslots : slots + N ≤ R.slots) (hdg : decode cc pc = .ok (.new index, 3))
    (kk : ∀ (q : Nat) (H1 : Heap), pw_S D tys A (ws ++ [(q, .inr (ci, fs))]) s H1 locs → W p l e R s m args below meth c H1 locs (cells + 1) (slots + N) Q (F0 m (pc + 3) ls (.ref q :: rest))) : W p l e R s m args below meth c H locs cells slots Q (F0 m pc ls rest) :=
  va_new S.1 S.2.1 S.2.2.2.2 F.2.1 ty F.2.2.1 S.2.2.2.1 (S.2.2.2.2 _ hcl) (S.2.2.2.2 _ hi) (S.2.2.2.2 _ hini) w.1 w.2.1 w.2.2.1 w.2.2.2.1 w.2.2.2.2.1 F.1 hfs hcells hslots hdg (fun q H1 hP hD hS => kk q H1 ⟨w.1, hP, hD, hS, w.2.2.2.2⟩)
/-- one class of int arrays -/
theorem pw_cI {t2 : List (ClassId × FieldType)} {i j : Nat} {c1 c2 : ClassId} (h1 : va_K D vwCl tys s) (h2 : va_K D vwCl t2 s) (e1 : tys[i]? = some (c1, .int)) (e2 : t2[j]? = some (c2, .int)) : c1 = c2 :=
  Option.some.inj ((h1.2 i _ e1).2.symm.trans (h2.2 j _ e2).2)
/-! methods that may throw -/
def pw_cd : Cond → Bool
  | .castable _ _ => true
  | .declares _ => true
  | _ => false
theorem pw_Z.any (h : pw_Z A s H) {w : Cond} (hw : w ∈ lw_tbl) (hk : (goodWord w || pw_cd w) = true) : w.before args s = true := by
  by_cases g : goodWord w = true
  · exact h.w (pw_in hw g)
  · have hc : pw_cd w = true := by
      rcases Bool.or_eq_true_iff.mp hk with q | q
      · exact absurd q g
      · exact q
    cases w with
    | castable C T => exact va_Nw.use rfl (h.nC hw)
    | declares x => exact va_Nw.use rfl (h.nD hw)
    | _ => cases hc
abbrev pw_X (D : va_G) (w0 : va_W) (XP : String → Prop) (A : Nat → Prop) : String → State → State → Prop := vx_X (S := Unit) (fun _ => True) (fun E _ t => XP E ∧ va_P D vwCl w0 t.heap) A
abbrev pw_Xi (l : Launch) (y : MethodName) (cc : ByteArray) (mL : Nat) (rt : FieldType) (rm : Room) (D : va_G) (tys : List (ClassId × FieldType)) (av : List Value) (w0 : va_W) (sz : Nat) {σ : Type} (post : Int32 → σ → Prop) (W1 : σ → va_W) (XP : String → Prop) (mc ms : Nat) : Prop :=
  vx_Met l y [.code y cc mL (some rt)] rm (pw_Pc D tys av w0 sz) (va_Qi post (pw_B D W1 (fun _ => tys) (va_A w0 sz)) (va_A w0 sz)) (pw_X D w0 XP (va_A w0 sz)) mc ms (va_A w0 sz)
theorem pw_openX {y : MethodName} {mL : Nat} {rt : FieldType} {rm : Room} {av : List Value} {w0 : va_W} {sz : Nat} {σ : Type} {post : Int32 → σ → Prop} {W1 : σ → va_W} {XP : String → Prop} (hy : plainName y.cls = true) (hav : (lg_sl av).length ≤ mL)
    (body : ∀ (p : Program) (e : Env) (s : State) (m : MethodId) (below : List Frame) (meth : Method) (c : Code) (ls : Array Slot), pw_Fx p m c cc mL s av.toArray y.cls → meth.sig.returnType = some rt → meth.locks = false → (∀ x ∈ c.exceptionTable.toList, False) → lv_has ls mL (lv_args 0 av) → s.heap.size = sz → pw_S D tys (va_A w0 sz) w0 s s.heap [] →
      W p l e rm s m av.toArray below meth c s.heap [] 0 0 (vx_MQ below (va_Qi post (pw_B D W1 (fun _ => tys) (va_A w0 sz)) (va_A w0 sz)) (pw_X D w0 XP (va_A w0 sz)) av.toArray s mc ms (va_A w0 sz)) (F0 m 0 ls [])) : pw_Xi l y cc mL rt rm D tys av w0 sz post W1 XP mc ms := by
  refine vx_ofW (cc := cc) (maxL := mL) (ret := some rt) hy rfl ?_
  intro p e s m args below meth c s₁ B hml htb hv
  obtain ⟨rfl, hsz, hP, hK, hD0, hZ⟩ := hv
  rw [lg_entry_eq]
  exact body p e s m below meth c _ ⟨B.exec, B.bytes, hml, findClass_of_methodNamed B.named, fun w h => hZ.w h⟩ B.returns B.notSynchronized htb (lv_entry av hav) hsz ⟨hK, hP, hD0.self, va_S.rf, fun q h => Or.inr (hsz ▸ h), hZ⟩
theorem pw_throw {cls text : String} {names : List String} {ik is ic : Nat} {XP : String → Prop} {Qc : Array Value → State → Outcome → State → Prop} (S : pw_Fx p m c cc nL s args own) (hl9 : l.stackTraces = false) (w : pw_S D tys A ws s H locs) (hcls : Bundle.fit cls = true) (hnames : ∀ n ∈ names, Bundle.fit n = true)
    (hk : Cond.classLink own ik cls ∈ pw_T) (hini : Cond.initialized cls ∈ pw_T) (hstr : Cond.stringRef own is text ∈ lw_tbl) (hat : ∀ w ∈ vx_atS own ic cls names, w ∈ lw_tbl ∧ (goodWord w || pw_cd w) = true) (hgood : ∀ w ∈ Cond.classLink own ik cls :: Cond.initialized cls :: vx_atS own ic cls names, vx_ot w = true)
    (hsize : ls.size = nL) (d0 : decode cc pc = .ok (.new ik, 3)) (d3 : decode cc (pc + 3) = .ok (.dup, 1)) (d4 : decode cc (pc + 4) = .ok (.ldc is, 2)) (d6 : decode cc (pc + 6) = .ok (.invokespecial ic, 3)) (d9 : decode cc (pc + 9) = .ok (.athrow, 1)) (htb : ∀ x ∈ c.exceptionTable.toList, False)
    (hRf : names.length + 3 < R.frames) (hRl : (rest.map fun v => v.category).sum + (13 * (names.length + 1) + 43) ≤ R.locals) (hRc : cells + 1 ≤ R.cells) (hRs : slots + 6 ≤ R.slots) (hlk : meth.locks = false) (hXP : XP cls) (hc : cells + 1 ≤ mc) (hs : slots + 6 ≤ ms) :
    W p l e R s m args below meth c H locs cells slots (vx_MQ below Qc (pw_X D ws XP A) args s mc ms A) (F0 m pc ls rest) := by
  obtain ⟨sa, hsa⟩ := w.2.2.2.2.2.str hstr
  refine vx_throwS (A := A) (names := names) S.1 S.2.1 hl9 S.2.2.2.1 hcls hnames (S.2.2.2.2 _ hk) (S.2.2.2.2 _ hini) hsa (fun w9 h9 => w.2.2.2.2.2.any (hat w9 h9).1 (hat w9 h9).2) hgood w.2.2.2.2.2.2.1 w.2.2.2.2.2.2.2 w.2.2.2.1 (hsize.trans S.2.2.1.symm) d0 d3 d4 d6 d9 (fun x hx => (htb x hx).elim) hRf hRl hRc hRs hlk ?_ w.2.2.2.1.2.2 hc hs
  intro t _ hz hq
  refine ⟨(), trivial, ⟨hXP, pw_P.mpr (fun q h => ?_)⟩, Nat.le_trans w.2.2.2.1.1 hz, fun q h1 h2 => ?_⟩
  · have hat1 := pw_P.mp w.2.1 q h
    exact hat1.kept (hq q.1 hat1.lt)
  · rw [hq q (Nat.lt_of_lt_of_le h1 w.2.2.2.1.1)]
    exact w.2.2.2.1.2.1 q h1 h2
theorem pw_Z.nN (h : pw_Z A s H) {C T : String} (hw : Cond.not (.castable C T) ∈ flatC (Jvm.Cond.and given_1 narrow_1)) : va_Nc C T s := by
  obtain ⟨⟨s0, a0, h1, -, h3⟩, -⟩ := h
  exact (va_Nc.of (flat_of_before _ h3 _ hw)).moved h1.alike
/-- a call that may throw: the world is the old one then -/
theorem pw_gox {σ : Type} {post : Int32 → σ → Prop} {W1 : σ → va_W} {T1 : σ → List (ClassId × FieldType)} {XP : String → Prop} (w : pw_S D tys A (wa ++ (wb ++ wc)) s H locs) (hr : vx_Run p l e R s m args below meth c H locs cells slots mc ms (F0 m pc ls st0) rest (va_Qi post (pw_B D W1 T1 (va_A wb H.size)) (va_A wb H.size) a) (pw_X D wb XP (va_A wb H.size)) (va_A wb H.size))
    (kx : ∀ (E : String) (ce : Cell) (q9 : Addr) (H1 : Heap) (locs1 : List Loc), XP E → pw_S D tys A (wa ++ (wb ++ wc)) s H1 locs1 → H1[q9]? = some ce → ce.vm = .none → s.vm.findClass E = some ce.cls → vx_W p l e R s m args below meth c H1 locs1 (cells + mc) (slots + ms) Q (F0 m pc ls rest) q9)
    (kk : ∀ (r : Int32) (u : σ) (H1 : Heap) (locs1 : List Loc), post r u → pw_S D tys A (wa ++ (W1 u ++ wc)) s H1 locs1 → W p l e R s m args below meth c H1 locs1 (cells + mc) (slots + ms) Q (F0 m (pc + 3) ls (.int r :: rest))) : W p l e R s m args below meth c H locs cells slots Q (F0 m pc ls st0) := by
  have hDb : va_D (va_A wb H.size) wb := by
    refine va_D.self (A := A) (pw_D.mpr ⟨?_, fun q hq => (pw_D.mp w.2.2.1).2 q (by simp [hq])⟩)
    have h := (pw_D.mp w.2.2.1).1
    simp only [List.map_append] at h
    exact (List.nodup_append.mp (List.nodup_append.mp h).2.1).1
  refine vx_calli hr w.2.2.2.1 (fun q _ h => pw_free w q h) (pw_free w) (fun q _ h => pw_free w q h) (fun E ce q9 u t H1 locs1 ht hvm _ hB _ hk hS h1 h2 h3 => ?_) (fun r u t H1 locs1 ht _ hp hB _ hk hS => kk r u H1 locs1 hp (pw_post w ht hk hS hB))
  exact kx E ce q9 H1 locs1 hB.1 (pw_post (W1 := fun _ : Unit => wb) (T1 := fun _ => tys) (u := ()) w ht hk hS ⟨hB.2, va_K.moved hvm w.1, hDb⟩) h1 h2 h3
/-- a static method with a table of handlers, which returns -/
abbrev pw_MW (l : Launch) (y : MethodName) (cc : ByteArray) (mL : Nat) (rt : FieldType) (hh : List (Nat × Nat × Nat × Nat)) (rm : Room) (D : va_G) (tys : List (ClassId × FieldType)) (av : List Value) (w0 : va_W) (sz : Nat) {σ : Type} (post : Int32 → σ → Prop) (W1 : σ → va_W) (mc ms : Nat) : Prop :=
  Met l y [.codeWith y cc mL (some rt) hh] rm (pw_Pc D tys av w0 sz) (va_Qi post (pw_B D W1 (fun _ => tys) (va_A w0 sz)) (va_A w0 sz)) mc ms (va_A w0 sz)
theorem pw_openW {y : MethodName} {mL : Nat} {rt : FieldType} {hh : List (Nat × Nat × Nat × Nat)} {rm : Room} {av : List Value} {w0 : va_W} {sz : Nat} {σ : Type} {post : Int32 → σ → Prop} {W1 : σ → va_W} (hy : plainName y.cls = true) (hav : (lg_sl av).length ≤ mL)
    (body : ∀ (p : Program) (e : Env) (s : State) (m : MethodId) (below : List Frame) (meth : Method) (c : Code) (ls : Array Slot), pw_Fx p m c cc mL s av.toArray y.cls → meth.sig.returnType = some rt → meth.locks = false → c.exceptionTable.toList = tableOf hh → lv_has ls mL (lv_args 0 av) → s.heap.size = sz → pw_S D tys (va_A w0 sz) w0 s s.heap [] →
      W p l e rm s m av.toArray below meth c s.heap [] 0 0 (MQ below (va_Qi post (pw_B D W1 (fun _ => tys) (va_A w0 sz)) (va_A w0 sz)) av.toArray s mc ms (va_A w0 sz)) (F0 m 0 ls [])) : pw_MW l y cc mL rt hh rm D tys av w0 sz post W1 mc ms := by
  refine va_MetW (cc := cc) (maxL := mL) (ret := some rt) (hh := hh) hy rfl ?_
  intro p e s m args below meth c s₁ B hml hv
  obtain ⟨rfl, hsz, hP, hK, hD0, hZ⟩ := hv
  have hTab := vx_table (x := y) B (atoms_spec (ws := [.codeWith y cc mL (some rt) hh]) B.pre _ List.mem_cons_self)
  rw [lg_entry_eq]
  exact body p e s m below meth c _ ⟨B.exec, B.bytes, hml, findClass_of_methodNamed B.named, fun w h => hZ.w h⟩ B.returns B.notSynchronized hTab (lv_entry av hav) hsz ⟨hK, hP, hD0.self, va_S.rf, fun q h => Or.inr (hsz ▸ h), hZ⟩
theorem pw_cW {y : MethodName} {bytes : ByteArray} {maxL n index : Nat} {ret : Option FieldType} {hh : List (Nat × Nat × Nat × Nat)} {rm : Room} (S : pw_Fx p m c cc nL s args own) (hl : Cond.methodLink own index y ∈ pw_T) (hi : Cond.static y ∈ pw_T) (hini : Cond.initialized y.cls ∈ pw_T) (hcode : Cond.codeWith y bytes maxL ret hh ∈ pw_T) (hrc : rm.cells = mc) (hrs : rm.slots = ms)
    (hd : y.cls ≠ "java/lang/invoke/MethodHandle" ∧ y.cls ≠ "java/lang/invoke/VarHandle" ∧ (parseMethodDescriptor y.desc).map (fun d => d.parameters.length) = some n) (hR : rm.frames + 1 ≤ R.frames ∧ 8 + (maxL + 11) + rm.locals ≤ R.locals) :
    vx_CSW R s args own index y bytes maxL ret hh [.codeWith y bytes maxL ret hh] rm mc ms n := by
  refine ⟨⟨hrc, hrs, hR.1, hR.2, pay_in S.2.2.2.2 (fun w h => ?_), List.mem_singleton.mpr rfl⟩, S.2.2.2.2 _ hcode, S.2.2.2.2 _ hini, ⟨hd.1, hd.2.1⟩, fun sig h => ?_, S.2.2.2.2 _ hl, S.2.2.2.2 _ hi⟩
  · rw [List.mem_singleton.mp h]
    exact ⟨hcode, good_of_word (List.mem_filter.mp hcode).2⟩
  · have h2 := hd.2.2
    rw [h] at h2
    exact (Option.some.inj h2).symm
theorem pw_lald (S : pw_Fx p m c cc nL s args own) (w : pw_S D tys A ws s H locs) (q0 t0 : Nat) {x : Nat} {cA : ClassId} {n : Nat} {f : Nat → Int64} (ha : ws[q0]? = some (x, .inl (cA, n, .inr (.inl f)))) (ht : tys[t0]? = some (cA, .long)) {j : Nat} (hj : j < n) (hn : n < 2 ^ 31) (hdg : decode cc pc = .ok (.laload, 1))
    (kk : W p l e R s m args below meth c H locs cells slots Q (F0 m (pc + 1) ls (.long (f j) :: rest))) : W p l e R s m args below meth c H locs cells slots Q (F0 m pc ls (.int (nI j) :: .ref x :: rest)) := by
  refine va_lald S.1 S.2.1 w.1 w.2.1 q0 t0 ha ht (vp_in_nI hj hn) hdg ?_
  rw [nI_clamp (by omega)]
  exact kk
theorem pw_last (S : pw_Fx p m c cc nL s args own) (w : pw_S D tys A ws s H locs) (q0 t0 : Nat) {x : Nat} {cA : ClassId} {n : Nat} {f : Nat → Int64} (ha : ws[q0]? = some (x, .inl (cA, n, .inr (.inl f)))) (ht : tys[t0]? = some (cA, .long)) {j : Nat} {v : Int64} (hj : j < n) (hn : n < 2 ^ 31) (hdg : decode cc pc = .ok (.lastore, 1))
    (kk : ∀ (H1 : Heap) (locs1 : List Loc), pw_S D tys A (ws.set q0 (x, .inl (cA, n, .inr (.inl (vp_updL f j v))))) s H1 locs1 → W p l e R s m args below meth c H1 locs1 cells slots Q (F0 m (pc + 1) ls rest)) : W p l e R s m args below meth c H locs cells slots Q (F0 m pc ls (.long v :: .int (nI j) :: .ref x :: rest)) := by
  refine va_last S.1 S.2.1 w.1 w.2.1 w.2.2.1 w.2.2.2.1 q0 t0 ha ht (vp_in_nI hj hn) hdg ?_
  rw [nI_clamp (by omega)]
  exact fun H1 locs1 hP hD hS => kk H1 locs1 ⟨w.1, hP, hD, hS, w.2.2.2.2⟩
end PW
end
section
/-! the tables' words that the walks use -/
set_option maxRecDepth 20000 in
theorem px_FD : pw_C cD RD TD 7 tyD := ⟨rfl, by decide +kernel, by decide +kernel, by decide +kernel⟩
set_option maxRecDepth 20000 in
theorem px_FP : pw_C cP RP TP 7 tyP := ⟨rfl, by decide +kernel, by decide +kernel, by decide +kernel⟩
set_option maxRecDepth 20000 in
theorem pm_FM : pw_C cM RM TM 17 tyM := ⟨rfl, by decide +kernel, by decide +kernel, by decide +kernel⟩
theorem iniL : Cond.initialized RL ∈ pw_T := pw_in (by decide +kernel) rfl
theorem iniP : Cond.initialized RP ∈ pw_T := pw_in (by decide +kernel) rfl
theorem iniD : Cond.initialized RD ∈ pw_T := pw_in (by decide +kernel) rfl
theorem iniM : Cond.initialized RM ∈ pw_T := pw_in (by decide +kernel) rfl
theorem ini_IA : Cond.initialized exIA ∈ pw_T := pw_in (by decide +kernel) rfl
theorem ini_IS : Cond.initialized exIS ∈ pw_T := pw_in (by decide +kernel) rfl
theorem iniF : Cond.initialized "java/util/Arrays" ∈ pw_T := pw_in (by decide +kernel) rfl
theorem ini_IB : Cond.initialized exIB ∈ pw_T := pw_in (by decide +kernel) rfl
theorem eL_8 : Cond.classLink RL 8 RP ∈ pw_T := pw_in (by decide +kernel) rfl
theorem nwP : Cond.instantiable RP 7 ∈ pw_T := pw_in (by decide +kernel) rfl
theorem eL_33 : Cond.methodLink RL 33 yX1_init ∈ pw_T := pw_in (by decide +kernel) rfl
theorem iP_init : Cond.instanceMethod yX1_init ∈ pw_T := pw_in (by decide +kernel) rfl
theorem kP_init : Cond.code yX1_init cX1_init 2 none ∈ pw_T := pw_in (List.mem_of_getElem? (i := 30) rfl) rfl
theorem eP_1 : Cond.methodLink RP 1 objectInit ∈ pw_T := pw_in (by decide +kernel) rfl
theorem iO : Cond.instanceMethod objectInit ∈ pw_T := pw_in (by decide +kernel) rfl
theorem kO : Cond.code objectInit ⟨#[0xb1]⟩ 1 none ∈ pw_T := pw_in (List.mem_of_getElem? (i := 33) rfl) rfl
theorem eP_13 : Cond.classLink RP 13 RD ∈ pw_T := pw_in (by decide +kernel) rfl
theorem aoD : Cond.arrayOver (.object RD) ∈ lw_tbl := by decide +kernel
theorem nwD : Cond.instantiable RD 7 ∈ pw_T := pw_in (by decide +kernel) rfl
theorem eP_19n : Cond.methodLinkNest RP 19 yX0_init "PieceBench" ∈ lw_tbl := by decide +kernel
theorem iD_init : Cond.instanceMethod yX0_init ∈ pw_T := pw_in (by decide +kernel) rfl
theorem kD_init : Cond.code yX0_init cX0_init 1 none ∈ pw_T := pw_in (List.mem_of_getElem? (i := 39) rfl) rfl
theorem eD_3 : Cond.methodLink RD 3 objectInit ∈ pw_T := pw_in (by decide +kernel) rfl
theorem eD_9 : Cond.fieldLink RD 9 "PieceBench$Datagram" "bytes" "[I" ∈ pw_T := pw_in (by decide +kernel) rfl
theorem eP_101 : Cond.fieldLinkNest RP 101 "PieceBench$Datagram" "bytes" "[I" "PieceBench" ∈ lw_tbl := by decide +kernel
theorem eD_15 : Cond.fieldLink RD 15 "PieceBench$Datagram" "source" "I" ∈ pw_T := pw_in (by decide +kernel) rfl
theorem eP_87 : Cond.fieldLinkNest RP 87 "PieceBench$Datagram" "source" "I" "PieceBench" ∈ lw_tbl := by decide +kernel
theorem eD_19 : Cond.fieldLink RD 19 "PieceBench$Datagram" "goal" "I" ∈ pw_T := pw_in (by decide +kernel) rfl
theorem eP_90 : Cond.fieldLinkNest RP 90 "PieceBench$Datagram" "goal" "I" "PieceBench" ∈ lw_tbl := by decide +kernel
theorem eD_22 : Cond.fieldLink RD 22 "PieceBench$Datagram" "number" "I" ∈ pw_T := pw_in (by decide +kernel) rfl
theorem eP_93 : Cond.fieldLinkNest RP 93 "PieceBench$Datagram" "number" "I" "PieceBench" ∈ lw_tbl := by decide +kernel
theorem eD_25 : Cond.fieldLink RD 25 "PieceBench$Datagram" "size" "I" ∈ pw_T := pw_in (by decide +kernel) rfl
theorem eP_52 : Cond.fieldLinkNest RP 52 "PieceBench$Datagram" "size" "I" "PieceBench" ∈ lw_tbl := by decide +kernel
theorem eD_28 : Cond.fieldLink RD 28 "PieceBench$Datagram" "lacking" "I" ∈ pw_T := pw_in (by decide +kernel) rfl
theorem eP_59 : Cond.fieldLinkNest RP 59 "PieceBench$Datagram" "lacking" "I" "PieceBench" ∈ lw_tbl := by decide +kernel
theorem eD_31 : Cond.fieldLink RD 31 "PieceBench$Datagram" "since" "I" ∈ pw_T := pw_in (by decide +kernel) rfl
theorem eP_122 : Cond.fieldLinkNest RP 122 "PieceBench$Datagram" "since" "I" "PieceBench" ∈ lw_tbl := by decide +kernel
theorem arI : Cond.arrayClass .int ∈ pw_T := pw_in (by decide +kernel) rfl
theorem eP_9 : Cond.fieldLink RP 9 "PieceBench" "fed" "[I" ∈ pw_T := pw_in (by decide +kernel) rfl
theorem eP_31 : Cond.fieldLink RP 31 "PieceBench" "fedCount" "I" ∈ pw_T := pw_in (by decide +kernel) rfl
theorem eP_15 : Cond.fieldLink RP 15 "PieceBench" "bench" "[LPieceBench$Datagram;" ∈ pw_T := pw_in (by decide +kernel) rfl
theorem eP_108 : Cond.fieldLink RP 108 "PieceBench" "benchCount" "I" ∈ pw_T := pw_in (by decide +kernel) rfl
theorem eP_20 : Cond.fieldLink RP 20 "PieceBench" "lastWhole" "LPieceBench$Datagram;" ∈ pw_T := pw_in (by decide +kernel) rfl
theorem eP_81 : Cond.fieldLink RP 81 "PieceBench" "anyWhole" "Z" ∈ pw_T := pw_in (by decide +kernel) rfl
theorem eP_70 : Cond.fieldLink RP 70 "PieceBench" "time" "I" ∈ pw_T := pw_in (by decide +kernel) rfl
theorem eL_63 : Cond.methodLink RL 63 yX1_missing ∈ pw_T := pw_in (by decide +kernel) rfl
theorem iP_missing : Cond.instanceMethod yX1_missing ∈ pw_T := pw_in (by decide +kernel) rfl
theorem sP_missing : Cond.selects RP yX1_missing yX1_missing ∈ pw_T := pw_in (by decide +kernel) rfl
theorem kP_missing : Cond.code yX1_missing cX1_missing 5 (some .int) ∈ pw_T := pw_in (List.mem_of_getElem? (i := 96) rfl) rfl
theorem eP_44 : Cond.methodLink RP 44 yX1_placeOf ∈ pw_T := pw_in (by decide +kernel) rfl
theorem iP_placeOf : Cond.instanceMethod yX1_placeOf ∈ pw_T := pw_in (by decide +kernel) rfl
theorem kP_placeOf : Cond.code yX1_placeOf cX1_placeOf 5 (some .int) ∈ pw_T := pw_in (List.mem_of_getElem? (i := 100) rfl) rfl
theorem eP_111 : Cond.methodLinkNest RP 111 yX0_isTold "PieceBench" ∈ lw_tbl := by decide +kernel
theorem iD_isTold : Cond.instanceMethod yX0_isTold ∈ pw_T := pw_in (by decide +kernel) rfl
theorem kD_isTold : Cond.code yX0_isTold cX0_isTold 4 (some .boolean) ∈ pw_T := pw_in (List.mem_of_getElem? (i := 104) rfl) rfl
theorem eL_68 : Cond.methodLink RL 68 yX1_has ∈ pw_T := pw_in (by decide +kernel) rfl
theorem iP_has : Cond.instanceMethod yX1_has ∈ pw_T := pw_in (by decide +kernel) rfl
theorem sP_has : Cond.selects RP yX1_has yX1_has ∈ pw_T := pw_in (by decide +kernel) rfl
theorem kP_has : Cond.code yX1_has cX1_has 6 (some .boolean) ∈ pw_T := pw_in (List.mem_of_getElem? (i := 108) rfl) rfl
theorem eP_104 : Cond.methodLinkNest RP 104 yX0_holds "PieceBench" ∈ lw_tbl := by decide +kernel
theorem iD_holds : Cond.instanceMethod yX0_holds ∈ pw_T := pw_in (by decide +kernel) rfl
theorem kD_holds : Cond.code yX0_holds cX0_holds 2 (some .boolean) ∈ pw_T := pw_in (List.mem_of_getElem? (i := 112) rfl) rfl
theorem eL_73 : Cond.methodLink RL 73 yX1_waiting ∈ pw_T := pw_in (by decide +kernel) rfl
theorem iP_waiting : Cond.instanceMethod yX1_waiting ∈ pw_T := pw_in (by decide +kernel) rfl
theorem sP_waiting : Cond.selects RP yX1_waiting yX1_waiting ∈ pw_T := pw_in (by decide +kernel) rfl
theorem kP_waiting : Cond.code yX1_waiting cX1_waiting 1 (some .int) ∈ pw_T := pw_in (List.mem_of_getElem? (i := 116) rfl) rfl
theorem eL_39 : Cond.methodLink RL 39 yL_feed ∈ pw_T := pw_in (by decide +kernel) rfl
theorem tL_feed : Cond.static yL_feed ∈ pw_T := pw_in (by decide +kernel) rfl
theorem kL_feed : Cond.codeWith yL_feed cL_feed 6 (some .int) [(0, 11, 14, 13), (0, 11, 18, 15)] ∈ pw_T := pw_in (List.mem_of_getElem? (i := 119) rfl) rfl
theorem eL_13 : Cond.classLink RL 13 "java/lang/IllegalArgumentException" ∈ pw_T := pw_in (by decide +kernel) rfl
theorem cl_exIA : Cond.classLink RL 13 exIA ∈ pw_T := pw_in (by decide +kernel) rfl
theorem eL_15 : Cond.classLink RL 15 "java/lang/IllegalStateException" ∈ pw_T := pw_in (by decide +kernel) rfl
theorem cl_exIS : Cond.classLink RL 15 exIS ∈ pw_T := pw_in (by decide +kernel) rfl
theorem eL_7 : Cond.methodLink RL 7 yX1_feed ∈ pw_T := pw_in (by decide +kernel) rfl
theorem iP_feed : Cond.instanceMethod yX1_feed ∈ pw_T := pw_in (by decide +kernel) rfl
theorem sP_feed : Cond.selects RP yX1_feed yX1_feed ∈ pw_T := pw_in (by decide +kernel) rfl
theorem kP_feed : Cond.code yX1_feed cX1_feed 6 (some .int) ∈ pw_T := pw_in (List.mem_of_getElem? (i := 125) rfl) rfl
theorem eP_24 : Cond.classLink RP 24 "java/lang/IllegalArgumentException" ∈ pw_T := pw_in (by decide +kernel) rfl
theorem ct_exIA : Cond.castable exIA exIA ∈ lw_tbl := by decide +kernel
theorem tx26 : Cond.stringRef RP 26 "n is not 1 .. 8" ∈ lw_tbl := by decide +kernel
theorem eP_28 : Cond.methodLink RP 28 ⟨"java/lang/IllegalArgumentException", "<init>", "(Ljava/lang/String;)V"⟩ ∈ pw_T := pw_in (by decide +kernel) rfl
theorem ar_byte : Cond.arrayClass .byte ∈ pw_T := pw_in (by decide +kernel) rfl
theorem eP_35 : Cond.classLink RP 35 "java/lang/IllegalStateException" ∈ pw_T := pw_in (by decide +kernel) rfl
theorem ct_exIS : Cond.castable exIS exIS ∈ lw_tbl := by decide +kernel
theorem tx37 : Cond.stringRef RP 37 "more than 1480 bytes would be fed" ∈ lw_tbl := by decide +kernel
theorem eP_39 : Cond.methodLink RP 39 ⟨"java/lang/IllegalStateException", "<init>", "(Ljava/lang/String;)V"⟩ ∈ pw_T := pw_in (by decide +kernel) rfl
theorem eL_49 : Cond.methodLink RL 49 yL_piece ∈ pw_T := pw_in (by decide +kernel) rfl
theorem tL_piece : Cond.static yL_piece ∈ pw_T := pw_in (by decide +kernel) rfl
theorem kL_piece : Cond.codeWith yL_piece cL_piece 8 (some .int) [(0, 16, 19, 13), (0, 16, 23, 15)] ∈ pw_T := pw_in (List.mem_of_getElem? (i := 212) rfl) rfl
theorem eL_17 : Cond.methodLink RL 17 yX1_piece ∈ pw_T := pw_in (by decide +kernel) rfl
theorem iP_piece : Cond.instanceMethod yX1_piece ∈ pw_T := pw_in (by decide +kernel) rfl
theorem sP_piece : Cond.selects RP yX1_piece yX1_piece ∈ pw_T := pw_in (by decide +kernel) rfl
theorem kP_piece : Cond.code yX1_piece cX1_piece 9 (some .int) ∈ pw_T := pw_in (List.mem_of_getElem? (i := 216) rfl) rfl
theorem tx40 : Cond.stringRef RP 40 "whole is not 1 .. 1480, or from is less than 0" ∈ lw_tbl := by decide +kernel
theorem tx42 : Cond.stringRef RP 42 "nothing was fed, or the piece goes beyond the whole" ∈ lw_tbl := by decide +kernel
theorem eP_48 : Cond.methodLink RP 48 yX1_beginOnBench ∈ pw_T := pw_in (by decide +kernel) rfl
theorem iP_beginOnBench : Cond.instanceMethod yX1_beginOnBench ∈ pw_T := pw_in (by decide +kernel) rfl
theorem kP_beginOnBench : Cond.code yX1_beginOnBench cX1_beginOnBench 6 (some .int) ∈ pw_T := pw_in (List.mem_of_getElem? (i := 222) rfl) rfl
theorem eP_115 : Cond.methodLink RP 115 yX1_forget ∈ pw_T := pw_in (by decide +kernel) rfl
theorem iP_forget : Cond.instanceMethod yX1_forget ∈ pw_T := pw_in (by decide +kernel) rfl
theorem kP_forget : Cond.code yX1_forget cX1_forget 4 none ∈ pw_T := pw_in (List.mem_of_getElem? (i := 226) rfl) rfl
theorem eP_118 : Cond.methodLinkNest RP 118 yX0_begin "PieceBench" ∈ lw_tbl := by decide +kernel
theorem iD_begin : Cond.instanceMethod yX0_begin ∈ pw_T := pw_in (by decide +kernel) rfl
theorem kD_begin : Cond.code yX0_begin cX0_begin 6 none ∈ pw_T := pw_in (List.mem_of_getElem? (i := 230) rfl) rfl
theorem eD_34 : Cond.methodLink RD 34 yF ∈ pw_T := pw_in (by decide +kernel) rfl
theorem tF : Cond.static yF ∈ pw_T := pw_in (by decide +kernel) rfl
theorem kF : Cond.code yF cF 4 none ∈ pw_T := pw_in (List.mem_of_getElem? (i := 233) rfl) rfl
theorem eP_55 : Cond.methodLinkNest RP 55 yX0_take "PieceBench" ∈ lw_tbl := by decide +kernel
theorem iD_take : Cond.instanceMethod yX0_take ∈ pw_T := pw_in (by decide +kernel) rfl
theorem kD_take : Cond.code yX0_take cX0_take 5 none ∈ pw_T := pw_in (List.mem_of_getElem? (i := 237) rfl) rfl
theorem eP_62 : Cond.methodLink RP 62 yX1_finish ∈ pw_T := pw_in (by decide +kernel) rfl
theorem iP_finish : Cond.instanceMethod yX1_finish ∈ pw_T := pw_in (by decide +kernel) rfl
theorem kP_finish : Cond.code yX1_finish cX1_finish 3 none ∈ pw_T := pw_in (List.mem_of_getElem? (i := 241) rfl) rfl
theorem eL_53 : Cond.methodLink RL 53 yL_pass ∈ pw_T := pw_in (by decide +kernel) rfl
theorem tL_pass : Cond.static yL_pass ∈ pw_T := pw_in (by decide +kernel) rfl
theorem kL_pass : Cond.codeWith yL_pass cL_pass 4 (some .int) [(0, 9, 12, 13), (0, 9, 15, 15)] ∈ pw_T := pw_in (List.mem_of_getElem? (i := 244) rfl) rfl
theorem eL_21 : Cond.methodLink RL 21 yX1_pass ∈ pw_T := pw_in (by decide +kernel) rfl
theorem iP_pass : Cond.instanceMethod yX1_pass ∈ pw_T := pw_in (by decide +kernel) rfl
theorem sP_pass : Cond.selects RP yX1_pass yX1_pass ∈ pw_T := pw_in (by decide +kernel) rfl
theorem kP_pass : Cond.code yX1_pass cX1_pass 2 (some .int) ∈ pw_T := pw_in (List.mem_of_getElem? (i := 248) rfl) rfl
theorem cP_66 : Cond.constant RP 66 1000000 ∈ pw_T := pw_in (by decide +kernel) rfl
theorem tx67 : Cond.stringRef RP 67 "n is not 0 .. 1000000" ∈ lw_tbl := by decide +kernel
theorem cP_69 : Cond.constant RP 69 1000000000 ∈ pw_T := pw_in (by decide +kernel) rfl
theorem tx73 : Cond.stringRef RP 73 "the time would be more than 1000000000" ∈ lw_tbl := by decide +kernel
theorem eP_75 : Cond.methodLink RP 75 yX1_giveUpOverdue ∈ pw_T := pw_in (by decide +kernel) rfl
theorem iP_giveUpOverdue : Cond.instanceMethod yX1_giveUpOverdue ∈ pw_T := pw_in (by decide +kernel) rfl
theorem kP_giveUpOverdue : Cond.code yX1_giveUpOverdue cX1_giveUpOverdue 2 (some .int) ∈ pw_T := pw_in (List.mem_of_getElem? (i := 256) rfl) rfl
theorem eL_57 : Cond.methodLink RL 57 yL_about ∈ pw_T := pw_in (by decide +kernel) rfl
theorem tL_about : Cond.static yL_about ∈ pw_T := pw_in (by decide +kernel) rfl
theorem kL_about : Cond.codeWith yL_about cL_about 4 (some .int) [(0, 9, 12, 13), (0, 9, 15, 15)] ∈ pw_T := pw_in (List.mem_of_getElem? (i := 259) rfl) rfl
theorem eL_25 : Cond.methodLink RL 25 yX1_about ∈ pw_T := pw_in (by decide +kernel) rfl
theorem iP_about : Cond.instanceMethod yX1_about ∈ pw_T := pw_in (by decide +kernel) rfl
theorem sP_about : Cond.selects RP yX1_about yX1_about ∈ pw_T := pw_in (by decide +kernel) rfl
theorem kP_about : Cond.code yX1_about cX1_about 2 (some .int) ∈ pw_T := pw_in (List.mem_of_getElem? (i := 263) rfl) rfl
theorem tx79 : Cond.stringRef RP 79 "what is not 0 .. 3" ∈ lw_tbl := by decide +kernel
theorem tx85 : Cond.stringRef RP 85 "no datagram was whole" ∈ lw_tbl := by decide +kernel
theorem eL_60 : Cond.methodLink RL 60 yL_byteAt ∈ pw_T := pw_in (by decide +kernel) rfl
theorem tL_byteAt : Cond.static yL_byteAt ∈ pw_T := pw_in (by decide +kernel) rfl
theorem kL_byteAt : Cond.codeWith yL_byteAt cL_byteAt 4 (some .int) [(0, 9, 12, 15), (0, 9, 15, 31)] ∈ pw_T := pw_in (List.mem_of_getElem? (i := 268) rfl) rfl
theorem eL_31 : Cond.classLink RL 31 "java/lang/IndexOutOfBoundsException" ∈ pw_T := pw_in (by decide +kernel) rfl
theorem cl_exIB : Cond.classLink RL 31 exIB ∈ pw_T := pw_in (by decide +kernel) rfl
theorem eL_28 : Cond.methodLink RL 28 yX1_byteAt ∈ pw_T := pw_in (by decide +kernel) rfl
theorem iP_byteAt : Cond.instanceMethod yX1_byteAt ∈ pw_T := pw_in (by decide +kernel) rfl
theorem sP_byteAt : Cond.selects RP yX1_byteAt yX1_byteAt ∈ pw_T := pw_in (by decide +kernel) rfl
theorem kP_byteAt : Cond.code yX1_byteAt cX1_byteAt 2 (some .int) ∈ pw_T := pw_in (List.mem_of_getElem? (i := 273) rfl) rfl
theorem eP_96 : Cond.classLink RP 96 "java/lang/IndexOutOfBoundsException" ∈ pw_T := pw_in (by decide +kernel) rfl
theorem ct_exIB : Cond.castable exIB exIB ∈ lw_tbl := by decide +kernel
theorem tx98 : Cond.stringRef RP 98 "the datagram has no such byte" ∈ lw_tbl := by decide +kernel
theorem eP_100 : Cond.methodLink RP 100 ⟨"java/lang/IndexOutOfBoundsException", "<init>", "(Ljava/lang/String;)V"⟩ ∈ pw_T := pw_in (by decide +kernel) rfl
theorem eL_34 : Cond.classLink RL 34 RM ∈ pw_T := pw_in (by decide +kernel) rfl
theorem nwM : Cond.instantiable RM 17 ∈ pw_T := pw_in (by decide +kernel) rfl
theorem eL_36 : Cond.methodLink RL 36 yM_init ∈ pw_T := pw_in (by decide +kernel) rfl
theorem iM_init : Cond.instanceMethod yM_init ∈ pw_T := pw_in (by decide +kernel) rfl
theorem kM_init : Cond.code yM_init cM_init 1 none ∈ pw_T := pw_in (List.mem_of_getElem? (i := 294) rfl) rfl
theorem eM_1 : Cond.methodLink RM 1 objectInit ∈ pw_T := pw_in (by decide +kernel) rfl
theorem eM_34 : Cond.fieldLink RM 34 "PieceBenchModel" "code" "I" ∈ pw_T := pw_in (by decide +kernel) rfl
theorem eM_50 : Cond.fieldLink RM 50 "PieceBenchModel" "time" "I" ∈ pw_T := pw_in (by decide +kernel) rfl
theorem eM_38 : Cond.fieldLink RM 38 "PieceBenchModel" "fedCount" "I" ∈ pw_T := pw_in (by decide +kernel) rfl
theorem eM_7 : Cond.fieldLink RM 7 "PieceBenchModel" "fed" "[I" ∈ pw_T := pw_in (by decide +kernel) rfl
theorem eM_43 : Cond.fieldLink RM 43 "PieceBenchModel" "count" "I" ∈ pw_T := pw_in (by decide +kernel) rfl
theorem eM_13 : Cond.fieldLink RM 13 "PieceBenchModel" "source" "[I" ∈ pw_T := pw_in (by decide +kernel) rfl
theorem eM_16 : Cond.fieldLink RM 16 "PieceBenchModel" "goal" "[I" ∈ pw_T := pw_in (by decide +kernel) rfl
theorem eM_19 : Cond.fieldLink RM 19 "PieceBenchModel" "number" "[I" ∈ pw_T := pw_in (by decide +kernel) rfl
theorem eM_22 : Cond.fieldLink RM 22 "PieceBenchModel" "since" "[I" ∈ pw_T := pw_in (by decide +kernel) rfl
theorem eM_25 : Cond.fieldLink RM 25 "PieceBenchModel" "whole" "[I" ∈ pw_T := pw_in (by decide +kernel) rfl
theorem eM_28 : Cond.fieldLink RM 28 "PieceBenchModel" "place" "[I" ∈ pw_T := pw_in (by decide +kernel) rfl
theorem eM_53 : Cond.fieldLink RM 53 "PieceBenchModel" "some" "Z" ∈ pw_T := pw_in (by decide +kernel) rfl
theorem eM_57 : Cond.fieldLink RM 57 "PieceBenchModel" "madeSource" "I" ∈ pw_T := pw_in (by decide +kernel) rfl
theorem eM_60 : Cond.fieldLink RM 60 "PieceBenchModel" "madeGoal" "I" ∈ pw_T := pw_in (by decide +kernel) rfl
theorem eM_63 : Cond.fieldLink RM 63 "PieceBenchModel" "madeNumber" "I" ∈ pw_T := pw_in (by decide +kernel) rfl
theorem eM_66 : Cond.fieldLink RM 66 "PieceBenchModel" "madeCount" "I" ∈ pw_T := pw_in (by decide +kernel) rfl
theorem eM_31 : Cond.fieldLink RM 31 "PieceBenchModel" "made" "[I" ∈ pw_T := pw_in (by decide +kernel) rfl
theorem eL_45 : Cond.methodLink RL 45 yM_thrown ∈ pw_T := pw_in (by decide +kernel) rfl
theorem iM_thrown : Cond.instanceMethod yM_thrown ∈ pw_T := pw_in (by decide +kernel) rfl
theorem sM_thrown : Cond.selects RM yM_thrown yM_thrown ∈ pw_T := pw_in (by decide +kernel) rfl
theorem kM_thrown : Cond.code yM_thrown cM_thrown 1 (some .int) ∈ pw_T := pw_in (List.mem_of_getElem? (i := 351) rfl) rfl
theorem eL_44 : Cond.methodLink RL 44 yM_feed ∈ pw_T := pw_in (by decide +kernel) rfl
theorem iM_feed : Cond.instanceMethod yM_feed ∈ pw_T := pw_in (by decide +kernel) rfl
theorem sM_feed : Cond.selects RM yM_feed yM_feed ∈ pw_T := pw_in (by decide +kernel) rfl
theorem kM_feed : Cond.code yM_feed cM_feed 5 (some .int) ∈ pw_T := pw_in (List.mem_of_getElem? (i := 355) rfl) rfl
theorem cM_41 : Cond.constantLong RM 41 255 ∈ pw_T := pw_in (by decide +kernel) rfl
theorem eL_52 : Cond.methodLink RL 52 yM_piece ∈ pw_T := pw_in (by decide +kernel) rfl
theorem iM_piece : Cond.instanceMethod yM_piece ∈ pw_T := pw_in (by decide +kernel) rfl
theorem sM_piece : Cond.selects RM yM_piece yM_piece ∈ pw_T := pw_in (by decide +kernel) rfl
theorem kM_piece : Cond.code yM_piece cM_piece 10 (some .int) ∈ pw_T := pw_in (List.mem_of_getElem? (i := 360) rfl) rfl
theorem eM_69 : Cond.methodLink RM 69 yM_find ∈ pw_T := pw_in (by decide +kernel) rfl
theorem iM_find : Cond.instanceMethod yM_find ∈ pw_T := pw_in (by decide +kernel) rfl
theorem kM_find : Cond.code yM_find cM_find 6 (some .int) ∈ pw_T := pw_in (List.mem_of_getElem? (i := 364) rfl) rfl
theorem eM_73 : Cond.methodLink RM 73 yM_begin ∈ pw_T := pw_in (by decide +kernel) rfl
theorem iM_begin : Cond.instanceMethod yM_begin ∈ pw_T := pw_in (by decide +kernel) rfl
theorem kM_begin : Cond.code yM_begin cM_begin 6 none ∈ pw_T := pw_in (List.mem_of_getElem? (i := 368) rfl) rfl
theorem eM_46 : Cond.methodLink RM 46 yM_forget ∈ pw_T := pw_in (by decide +kernel) rfl
theorem iM_forget : Cond.instanceMethod yM_forget ∈ pw_T := pw_in (by decide +kernel) rfl
theorem kM_forget : Cond.code yM_forget cM_forget 4 none ∈ pw_T := pw_in (List.mem_of_getElem? (i := 372) rfl) rfl
theorem eM_77 : Cond.methodLink RM 77 yM_lacks ∈ pw_T := pw_in (by decide +kernel) rfl
theorem iM_lacks : Cond.instanceMethod yM_lacks ∈ pw_T := pw_in (by decide +kernel) rfl
theorem kM_lacks : Cond.code yM_lacks cM_lacks 4 (some .int) ∈ pw_T := pw_in (List.mem_of_getElem? (i := 376) rfl) rfl
theorem eM_81 : Cond.methodLink RM 81 yM_finish ∈ pw_T := pw_in (by decide +kernel) rfl
theorem iM_finish : Cond.instanceMethod yM_finish ∈ pw_T := pw_in (by decide +kernel) rfl
theorem kM_finish : Cond.code yM_finish cM_finish 3 none ∈ pw_T := pw_in (List.mem_of_getElem? (i := 380) rfl) rfl
theorem eL_56 : Cond.methodLink RL 56 yM_pass ∈ pw_T := pw_in (by decide +kernel) rfl
theorem iM_pass : Cond.instanceMethod yM_pass ∈ pw_T := pw_in (by decide +kernel) rfl
theorem sM_pass : Cond.selects RM yM_pass yM_pass ∈ pw_T := pw_in (by decide +kernel) rfl
theorem kM_pass : Cond.code yM_pass cM_pass 3 (some .int) ∈ pw_T := pw_in (List.mem_of_getElem? (i := 384) rfl) rfl
theorem cM_84 : Cond.constant RM 84 1000000 ∈ pw_T := pw_in (by decide +kernel) rfl
theorem cM_85 : Cond.constant RM 85 1000000000 ∈ pw_T := pw_in (by decide +kernel) rfl
theorem eL_59 : Cond.methodLink RL 59 yM_about ∈ pw_T := pw_in (by decide +kernel) rfl
theorem iM_about : Cond.instanceMethod yM_about ∈ pw_T := pw_in (by decide +kernel) rfl
theorem sM_about : Cond.selects RM yM_about yM_about ∈ pw_T := pw_in (by decide +kernel) rfl
theorem kM_about : Cond.code yM_about cM_about 2 (some .int) ∈ pw_T := pw_in (List.mem_of_getElem? (i := 390) rfl) rfl
theorem eL_62 : Cond.methodLink RL 62 yM_byteAt ∈ pw_T := pw_in (by decide +kernel) rfl
theorem iM_byteAt : Cond.instanceMethod yM_byteAt ∈ pw_T := pw_in (by decide +kernel) rfl
theorem sM_byteAt : Cond.selects RM yM_byteAt yM_byteAt ∈ pw_T := pw_in (by decide +kernel) rfl
theorem kM_byteAt : Cond.code yM_byteAt cM_byteAt 2 (some .int) ∈ pw_T := pw_in (List.mem_of_getElem? (i := 394) rfl) rfl
theorem eL_67 : Cond.methodLink RL 67 yM_missing ∈ pw_T := pw_in (by decide +kernel) rfl
theorem iM_missing : Cond.instanceMethod yM_missing ∈ pw_T := pw_in (by decide +kernel) rfl
theorem sM_missing : Cond.selects RM yM_missing yM_missing ∈ pw_T := pw_in (by decide +kernel) rfl
theorem kM_missing : Cond.code yM_missing cM_missing 5 (some .int) ∈ pw_T := pw_in (List.mem_of_getElem? (i := 398) rfl) rfl
theorem eL_72 : Cond.methodLink RL 72 yM_has ∈ pw_T := pw_in (by decide +kernel) rfl
theorem iM_has : Cond.instanceMethod yM_has ∈ pw_T := pw_in (by decide +kernel) rfl
theorem sM_has : Cond.selects RM yM_has yM_has ∈ pw_T := pw_in (by decide +kernel) rfl
theorem kM_has : Cond.code yM_has cM_has 6 (some .boolean) ∈ pw_T := pw_in (List.mem_of_getElem? (i := 402) rfl) rfl
theorem eL_76 : Cond.methodLink RL 76 yM_waiting ∈ pw_T := pw_in (by decide +kernel) rfl
theorem iM_waiting : Cond.instanceMethod yM_waiting ∈ pw_T := pw_in (by decide +kernel) rfl
theorem sM_waiting : Cond.selects RM yM_waiting yM_waiting ∈ pw_T := pw_in (by decide +kernel) rfl
theorem kM_waiting : Cond.code yM_waiting cM_waiting 1 (some .int) ∈ pw_T := pw_in (List.mem_of_getElem? (i := 406) rfl) rfl
theorem cL_37 : Cond.constantLong RL 37 4294967295 ∈ pw_T := pw_in (by decide +kernel) rfl
theorem arL : Cond.arrayClass .long ∈ pw_T := pw_in (by decide +kernel) rfl
theorem sP_placeOf : Cond.selects RP yX1_placeOf yX1_placeOf ∈ pw_T := pw_in (by decide +kernel) rfl
theorem sP_beginOnBench : Cond.selects RP yX1_beginOnBench yX1_beginOnBench ∈ pw_T := pw_in (by decide +kernel) rfl
theorem sP_forget : Cond.selects RP yX1_forget yX1_forget ∈ pw_T := pw_in (by decide +kernel) rfl
theorem sP_finish : Cond.selects RP yX1_finish yX1_finish ∈ pw_T := pw_in (by decide +kernel) rfl
theorem sP_giveUpOverdue : Cond.selects RP yX1_giveUpOverdue yX1_giveUpOverdue ∈ pw_T := pw_in (by decide +kernel) rfl
theorem sD_isTold : Cond.selects RD yX0_isTold yX0_isTold ∈ pw_T := pw_in (by decide +kernel) rfl
theorem sD_holds : Cond.selects RD yX0_holds yX0_holds ∈ pw_T := pw_in (by decide +kernel) rfl
theorem sD_begin : Cond.selects RD yX0_begin yX0_begin ∈ pw_T := pw_in (by decide +kernel) rfl
theorem sD_take : Cond.selects RD yX0_take yX0_take ∈ pw_T := pw_in (by decide +kernel) rfl
theorem sM_find : Cond.selects RM yM_find yM_find ∈ pw_T := pw_in (by decide +kernel) rfl
theorem sM_begin : Cond.selects RM yM_begin yM_begin ∈ pw_T := pw_in (by decide +kernel) rfl
theorem sM_forget : Cond.selects RM yM_forget yM_forget ∈ pw_T := pw_in (by decide +kernel) rfl
theorem sM_lacks : Cond.selects RM yM_lacks yM_lacks ∈ pw_T := pw_in (by decide +kernel) rfl
theorem sM_finish : Cond.selects RM yM_finish yM_finish ∈ pw_T := pw_in (by decide +kernel) rfl
set_option maxRecDepth 20000 in
theorem at24_28_ok : ∀ w ∈ vx_atS RP 28 exIA exN, w ∈ lw_tbl ∧ (goodWord w || pw_cd w) = true := by decide +kernel
set_option maxRecDepth 20000 in
theorem gd24_28_ok : ∀ w ∈ Cond.classLink RP 24 exIA :: Cond.initialized exIA :: vx_atS RP 28 exIA exN, vx_ot w = true := by decide +kernel
set_option maxRecDepth 20000 in
theorem at35_39_ok : ∀ w ∈ vx_atS RP 39 exIS exN, w ∈ lw_tbl ∧ (goodWord w || pw_cd w) = true := by decide +kernel
set_option maxRecDepth 20000 in
theorem gd35_39_ok : ∀ w ∈ Cond.classLink RP 35 exIS :: Cond.initialized exIS :: vx_atS RP 39 exIS exN, vx_ot w = true := by decide +kernel
set_option maxRecDepth 20000 in
theorem at96_100_ok : ∀ w ∈ vx_atS RP 100 exIB exN, w ∈ lw_tbl ∧ (goodWord w || pw_cd w) = true := by decide +kernel
set_option maxRecDepth 20000 in
theorem gd96_100_ok : ∀ w ∈ Cond.classLink RP 96 exIB :: Cond.initialized exIB :: vx_atS RP 100 exIB exN, vx_ot w = true := by decide +kernel
theorem nc_exIS_exIA : Cond.not (.castable exIS exIA) ∈ flatC (Jvm.Cond.and given_1 narrow_1) := by decide +kernel
theorem nc_exIB_exIS : Cond.not (.castable exIB exIS) ∈ flatC (Jvm.Cond.and given_1 narrow_1) := by decide +kernel
end
section
/-! the class's state: its cells, read as numbers and functions -/
/-- a Datagram's numbers: source, goal, number, size, lacking, since -/
abbrev px_G : Type := Int32 × Int32 × Int32 × Int32 × Int32 × Int32
def px_fs (a : Nat) (g : px_G) : List Value := [.ref a, .int g.1, .int g.2.1, .int g.2.2.1, .int g.2.2.2.1, .int g.2.2.2.2.1, .int g.2.2.2.2.2]
abbrev px_T (cI cO : ClassId) : List (ClassId × FieldType) := [(cI, .int), (cO, .object RD)]
/-- what the bench's array holds -/
def px_bf (o sg : Nat → Nat) : Nat → Option Nat := fun q => if q < 4 then some (o (sg q)) else none
theorem px_bf_at {o sg : Nat → Nat} {k : Nat} (h : k < 4) : px_bf o sg k = some (o (sg k)) := if_pos h
/-- the bench's cells: the object, what is fed, the bench, five Datagrams each with its bytes; place q of the bench holds Datagram sg q, lastWhole is Datagram lw -/
def px_W (a0 af ab : Nat) (o ar : Nat → Nat) (cI cO : ClassId) (fd : Nat → Int32) (nf : Nat) (sg : Nat → Nat) (nb lw : Nat) (aw : Int32) (tm : Nat) (G : Nat → px_G) (B : Nat → Nat → Int32) : va_W :=
  [(a0, .inr (cP, [.ref af, .int (nI nf), .ref ab, .int (nI nb), .ref (o lw), .int aw, .int (nI tm)])), (af, .inl (cI, 1480, .inl fd)), (ab, .inl (cO, 4, .inr (.inr (.inr (.inr (px_bf o sg)))))),
   (o 0, .inr (cD, px_fs (ar 0) (G 0))), (ar 0, .inl (cI, 1480, .inl (B 0))), (o 1, .inr (cD, px_fs (ar 1) (G 1))), (ar 1, .inl (cI, 1480, .inl (B 1))), (o 2, .inr (cD, px_fs (ar 2) (G 2))), (ar 2, .inl (cI, 1480, .inl (B 2))),
   (o 3, .inr (cD, px_fs (ar 3) (G 3))), (ar 3, .inl (cI, 1480, .inl (B 3))), (o 4, .inr (cD, px_fs (ar 4) (G 4))), (ar 4, .inl (cI, 1480, .inl (B 4)))]
section PX
variable {a0 af ab : Nat} {o ar : Nat → Nat} {cI cO : ClassId} {fd : Nat → Int32} {nf : Nat} {sg : Nat → Nat} {nb lw : Nat} {aw : Int32} {tm : Nat} {G : Nat → px_G} {B : Nat → Nat → Int32} {j : Nat}
theorem px_5 (hj : j < 5) : j = 0 ∨ j = 1 ∨ j = 2 ∨ j = 3 ∨ j = 4 := by omega
theorem px_ato (hj : j < 5) : (px_W a0 af ab o ar cI cO fd nf sg nb lw aw tm G B)[3 + 2 * j]? = some (o j, .inr (cD, px_fs (ar j) (G j))) := by
  rcases px_5 hj with rfl | rfl | rfl | rfl | rfl <;> rfl
theorem px_ata (hj : j < 5) : (px_W a0 af ab o ar cI cO fd nf sg nb lw aw tm G B)[4 + 2 * j]? = some (ar j, .inl (cI, 1480, .inl (B j))) := by
  rcases px_5 hj with rfl | rfl | rfl | rfl | rfl <;> rfl
theorem px_seto (hj : j < 5) (g : px_G) : (px_W a0 af ab o ar cI cO fd nf sg nb lw aw tm G B).set (3 + 2 * j) (o j, .inr (cD, px_fs (ar j) g)) = px_W a0 af ab o ar cI cO fd nf sg nb lw aw tm (va_up G j g) B := by
  rcases px_5 hj with rfl | rfl | rfl | rfl | rfl <;> rfl
theorem px_seta (hj : j < 5) (b : Nat → Int32) : (px_W a0 af ab o ar cI cO fd nf sg nb lw aw tm G B).set (4 + 2 * j) (ar j, .inl (cI, 1480, .inl b)) = px_W a0 af ab o ar cI cO fd nf sg nb lw aw tm G (va_up B j b) := by
  rcases px_5 hj with rfl | rfl | rfl | rfl | rfl <;> rfl
theorem px_id {α : Type} (f : Nat → α) (k : Nat) : va_up f k (f k) = f := by
  funext i
  unfold va_up
  split
  · next h => rw [h]
  · rfl
theorem px_ato' (hj : j < 5) {g : px_G} : (px_W a0 af ab o ar cI cO fd nf sg nb lw aw tm (va_up G j g) B)[3 + 2 * j]? = some (o j, .inr (cD, px_fs (ar j) g)) := by
  have h := px_ato (a0 := a0) (af := af) (ab := ab) (o := o) (ar := ar) (cI := cI) (cO := cO) (fd := fd) (nf := nf) (sg := sg) (nb := nb) (lw := lw) (aw := aw) (tm := tm) (G := va_up G j g) (B := B) hj
  rwa [va_up_self] at h
theorem px_ata' (hj : j < 5) {b : Nat → Int32} : (px_W a0 af ab o ar cI cO fd nf sg nb lw aw tm G (va_up B j b))[4 + 2 * j]? = some (ar j, .inl (cI, 1480, .inl b)) := by
  have h := px_ata (a0 := a0) (af := af) (ab := ab) (o := o) (ar := ar) (cI := cI) (cO := cO) (fd := fd) (nf := nf) (sg := sg) (nb := nb) (lw := lw) (aw := aw) (tm := tm) (G := G) (B := va_up B j b) hj
  rwa [va_up_self] at h
theorem px_seto' (hj : j < 5) {g : px_G} (g' : px_G) : (px_W a0 af ab o ar cI cO fd nf sg nb lw aw tm (va_up G j g) B).set (3 + 2 * j) (o j, .inr (cD, px_fs (ar j) g')) = px_W a0 af ab o ar cI cO fd nf sg nb lw aw tm (va_up G j g') B := by
  rw [px_seto hj, bx_uu]
theorem px_seta' (hj : j < 5) {b : Nat → Int32} (b' : Nat → Int32) : (px_W a0 af ab o ar cI cO fd nf sg nb lw aw tm G (va_up B j b)).set (4 + 2 * j) (ar j, .inl (cI, 1480, .inl b')) = px_W a0 af ab o ar cI cO fd nf sg nb lw aw tm G (va_up B j b') := by
  rw [px_seta hj, bx_uu]
/-- place i of the bench now holds Datagram v -/
theorem px_sets {i : Nat} (hi : i < 4) (v : Nat) : (px_W a0 af ab o ar cI cO fd nf sg nb lw aw tm G B).set 2 (ab, .inl (cO, 4, .inr (.inr (.inr (.inr (va_up (px_bf o sg) i (some (o v)))))))) = px_W a0 af ab o ar cI cO fd nf (va_up sg i v) nb lw aw tm G B := by
  have h : va_up (px_bf o sg) i (some (o v)) = px_bf o (va_up sg i v) := by
    funext q
    unfold va_up px_bf
    by_cases h1 : q = i
    · subst h1
      simp [hi]
    · simp [h1]
  rw [h]
  rfl
end PX
/-- whether a Datagram is told by these three numbers -/
def px_tl (g : px_G) (a b c : Int32) : Prop := g.1 = a ∧ g.2.1 = b ∧ g.2.2.1 = c
/-- the bench's places behind forget k -/
def px_sh (sg : Nat → Nat) (k i : Nat) : Nat → Nat := fun q => if k ≤ q ∧ q < i then sg (q + 1) else sg q
def px_rot (sg : Nat → Nat) (k nb : Nat) : Nat → Nat := va_up (px_sh sg k (nb - 1)) (nb - 1) (sg k)
theorem px_sh_0 (sg : Nat → Nat) (k : Nat) : px_sh sg k k = sg := by
  funext q
  unfold px_sh
  rw [if_neg (by omega)]
theorem px_sh_s (sg : Nat → Nat) {k i : Nat} (h : k ≤ i) : va_up (px_sh sg k i) i (px_sh sg k i (i + 1)) = px_sh sg k (i + 1) := by
  funext q
  have e : px_sh sg k i (i + 1) = sg (i + 1) := by unfold px_sh; rw [if_neg (by omega)]
  rw [e]
  unfold va_up px_sh
  by_cases h1 : q = i
  · subst h1
    rw [if_pos rfl, if_pos (by omega)]
  · rw [if_neg h1]
    by_cases h2 : k ≤ q ∧ q < i
    · rw [if_pos h2, if_pos (by omega)]
    · rw [if_neg h2, if_neg (by omega)]
theorem px_sh_lt {sg : Nat → Nat} {k i : Nat} (h : ∀ q, q < 4 → sg q < 5) (hi : i ≤ 3) : ∀ q, q < 4 → px_sh sg k i q < 5 := by
  intro q hq
  unfold px_sh
  split
  · exact h _ (by omega)
  · exact h _ hq
theorem px_rot_lt {sg : Nat → Nat} {k nb : Nat} (h : ∀ q, q < 4 → sg q < 5) (hk : k < nb) (hn : nb ≤ 4) : ∀ q, q < 4 → px_rot sg k nb q < 5 := by
  intro q hq
  unfold px_rot va_up
  split
  · exact h _ (by omega)
  · exact px_sh_lt h (by omega) q hq
/-- what take does: bytes and lacking, k bytes on -/
def px_tB (b fd : Nat → Int32) (fr : Nat) : Nat → Nat → Int32
  | 0 => b
  | k + 1 => if px_tB b fd fr k (fr + k) = -1 then upd (px_tB b fd fr k) (fr + k) (fd k) else px_tB b fd fr k
def px_tL (b fd : Nat → Int32) (fr : Nat) (lk : Int32) : Nat → Int32
  | 0 => lk
  | k + 1 => if px_tB b fd fr k (fr + k) = -1 then px_tL b fd fr lk k - 1 else px_tL b fd fr lk k
/-- what Arrays.fill does, k places on -/
def px_fl (b : Nat → Int32) (v : Int32) (k : Nat) : Nat → Int32 := fun i => if i < k then v else b i
theorem px_fl_0 (b : Nat → Int32) (v : Int32) : px_fl b v 0 = b := by
  funext i
  unfold px_fl
  rw [if_neg (by omega)]
theorem px_fl_s (b : Nat → Int32) (v : Int32) (k : Nat) : upd (px_fl b v k) k v = px_fl b v (k + 1) := by
  funext i
  by_cases h : i = k
  · subst h
    rw [pk_us]
    unfold px_fl
    rw [if_pos (by omega)]
  · rw [pk_un h]
    unfold px_fl
    by_cases h2 : i < k
    · rw [if_pos h2, if_pos (by omega)]
    · rw [if_neg h2, if_neg (by omega)]
/-- a byte of a long -/
def px_by (x : Int64) (d : Int32) : Int32 := (x.toUInt64 >>> (d.toInt64.toUInt64 &&& Int64.toUInt64 63)).toInt64.toInt32 &&& 255
/-- what feed writes, k bytes on -/
def px_fd (fd : Nat → Int32) (nf : Nat) (x : Int64) (n : Int32) : Nat → Nat → Int32
  | 0 => fd
  | k + 1 => upd (px_fd fd nf x n k) (nf + k) (px_by x (8 * (n - 1 - nI k)))
/-- whether a Datagram of size zs holds byte i -/
def px_hd (zs : Nat) (b : Nat → Int32) (i : Int32) : Prop := ¬ i < 0 ∧ ¬ nI zs ≤ i ∧ ¬ b i.toNatClampNeg = -1
/-- given up, n places at most -/
def px_gv (tm : Nat) (G : Nat → px_G) : Nat → (Nat → Nat) → Nat → (Nat → Nat) × Nat
  | 0, sg, nb => (sg, nb)
  | n + 1, sg, nb => if 0 < nb ∧ ¬ nI tm - (G (sg 0)).2.2.2.2.2 < 300 then px_gv tm G n (px_rot sg 0 nb) (nb - 1) else (sg, nb)

/-- where the class finds a Datagram -/
def px_fnd (sg : Nat → Nat) (G : Nat → px_G) (nb : Nat) (a b c : Int32) (x : Option Nat) : Prop := match x with
  | some k => k < nb ∧ px_tl (G (sg k)) a b c ∧ ∀ q, q < k → ¬ px_tl (G (sg q)) a b c
  | none => ∀ q, q < nb → ¬ px_tl (G (sg q)) a b c
def px_ix (x : Option Nat) : Int32 := match x with
  | some k => nI k
  | none => -1
theorem px_ix_none {x : Option Nat} (hx : ∀ k, x = some k → k < 2 ^ 31) (h : px_ix x = -1) : x = none := by
  cases x with
  | none => rfl
  | some k =>
    have h2 : nI k = -1 := h
    have h3 : ¬ nI k < 0 := nI_pos (hx k rfl)
    rw [h2] at h3
    exact absurd (by decide) h3
def px_ms (sg : Nat → Nat) (G : Nat → px_G) (x : Option Nat) : Int32 := match x with
  | some k => (G (sg k)).2.2.2.2.1
  | none => -1
def px_hs (sg : Nat → Nat) (G : Nat → px_G) (B : Nat → Nat → Int32) (i : Int32) (x : Option Nat) : Prop := match x with
  | some k => ∃ zs, (G (sg k)).2.2.2.1 = nI zs ∧ px_hd zs (B (sg k)) i ∧ zs ≤ 1480
  | none => False
theorem px_sz {a b : Nat} (h : nI a = nI b) (ha : a ≤ 1480) (hb : b ≤ 1480) : a = b := (nI_eq (by omega) (by omega)).mp h
theorem px_pred {n : Nat} (h : 0 < n) : nI n - 1 = nI (n - 1) := by
  obtain ⟨k, rfl⟩ : ∃ k, n = k + 1 := ⟨n - 1, by omega⟩
  exact nI_pred k
/-- room on the bench for one more: the earliest goes if it is full -/
def px_mk (sg : Nat → Nat) (nb : Nat) : (Nat → Nat) × Nat := if nb = 4 then (px_rot sg 0 nb, nb - 1) else (sg, nb)
abbrev px_R : Type := (Nat → Nat) × Nat × Nat × Int32 × (Nat → px_G) × (Nat → Nat → Int32)
/-- what piece does once its Datagram stands at place k: the answer, the bench's places, how many, lastWhole, anyWhole, numbers, bytes -/
def px_tk (fd : Nat → Int32) (nf fr : Nat) (wh : Int32) (k : Nat) (sg : Nat → Nat) (nb lw : Nat) (aw : Int32) (G : Nat → px_G) (B : Nat → Nat → Int32) : Int32 × px_R :=
  if (G (sg k)).2.2.2.1 = wh then
    if px_tL (B (sg k)) fd fr (G (sg k)).2.2.2.2.1 nf ≤ 0 then
      (1, va_up (px_rot sg k nb) (nb - 1) lw, nb - 1, px_rot sg k nb (nb - 1), 1, va_up G (sg k) ((G (sg k)).1, (G (sg k)).2.1, (G (sg k)).2.2.1, (G (sg k)).2.2.2.1, px_tL (B (sg k)) fd fr (G (sg k)).2.2.2.2.1 nf, (G (sg k)).2.2.2.2.2), va_up B (sg k) (px_tB (B (sg k)) fd fr nf))
    else (0, sg, nb, lw, aw, va_up G (sg k) ((G (sg k)).1, (G (sg k)).2.1, (G (sg k)).2.2.1, (G (sg k)).2.2.2.1, px_tL (B (sg k)) fd fr (G (sg k)).2.2.2.2.1 nf, (G (sg k)).2.2.2.2.2), va_up B (sg k) (px_tB (B (sg k)) fd fr nf))
  else (-1, sg, nb, lw, aw, G, B)
def px_pc (fd : Nat → Int32) (nf fr : Nat) (a b d3 wh : Int32) (sg : Nat → Nat) (nb lw : Nat) (aw : Int32) (tm : Nat) (G : Nat → px_G) (B : Nat → Nat → Int32) (x : Option Nat) : Int32 × px_R := match x with
  | some k => px_tk fd nf fr wh k sg nb lw aw G B
  | none => px_tk fd nf fr wh (px_mk sg nb).2 (px_mk sg nb).1 ((px_mk sg nb).2 + 1) lw aw (va_up G ((px_mk sg nb).1 (px_mk sg nb).2) (a, b, d3, wh, wh, nI tm)) (va_up B ((px_mk sg nb).1 (px_mk sg nb).2) (px_fl (B ((px_mk sg nb).1 (px_mk sg nb).2)) (-1) 1480))
def px_ab (g : px_G) (w : Int32) : Int32 := if w = 0 then g.1 else if w = 1 then g.2.1 else if w = 2 then g.2.2.1 else g.2.2.2.1
theorem px_mk_le {sg : Nat → Nat} {nb : Nat} (h : nb ≤ 4) : (px_mk sg nb).2 < 4 := by
  unfold px_mk
  split
  · show nb - 1 < 4; omega
  · show nb < 4; omega
theorem px_mk_lt {sg : Nat → Nat} {nb : Nat} (hn : nb ≤ 4) (h : ∀ q, q < 4 → sg q < 5) : ∀ q, q < 4 → (px_mk sg nb).1 q < 5 := by
  unfold px_mk
  split
  · exact px_rot_lt h (by omega) hn
  · exact h
theorem px_bf4 (q0 q1 q2 q3 q4 : Nat) : va_up (va_up (va_up (va_up (fun _ => none) 0 (some q0)) 1 (some q1)) 2 (some q2)) 3 (some q3) = px_bf (fun i => [q0, q1, q2, q3, q4].getD i 0) (fun q => q) := by
  funext i
  rcases i with _ | _ | _ | _ | i <;> simp [va_up, px_bf]
/-- what a new bench's cells are: the addresses of fed, bench, the Datagrams, their bytes, and the two array classes -/
abbrev px_H : Type := Nat × Nat × (Nat → Nat) × (Nat → Nat) × ClassId × ClassId
abbrev px_N (a0 : Nat) (h : px_H) : va_W := px_W a0 h.1 h.2.1 h.2.2.1 h.2.2.2.1 h.2.2.2.2.1 h.2.2.2.2.2 (fun _ => 0) 0 (fun q => q) 0 4 0 0 (fun _ => (0, 0, 0, 0, 0, 0)) (fun _ _ => 0)
theorem pw_nlt {x y : Int32} (h : ¬ x < y) : y.toInt ≤ x.toInt := Int.not_lt.mp (fun q => h (Int32.lt_iff_toInt_lt.mpr q))
theorem pw_nle {x y : Int32} (h : ¬ x ≤ y) : y.toInt < x.toInt := Int.not_le.mp (fun q => h (Int32.le_iff_toInt_le.mpr q))
end
section
/-! pure rows: how many bytes have not come; what take leaves; the bench's places as a permutation -/
def pa_c (b : Nat → Int32) : Nat → Nat
  | 0 => 0
  | n + 1 => pa_c b n + (if b n = -1 then 1 else 0)
theorem pa_c_le (b : Nat → Int32) : ∀ n, pa_c b n ≤ n
  | 0 => Nat.le_refl 0
  | n + 1 => by
    have h := pa_c_le b n
    unfold pa_c
    split <;> omega
theorem pa_c_congr {b b' : Nat → Int32} : ∀ {n : Nat}, (∀ i, i < n → b i = b' i) → pa_c b n = pa_c b' n
  | 0, _ => rfl
  | n + 1, h => by
    unfold pa_c
    rw [pa_c_congr (n := n) (fun i hi => h i (by omega)), h n (by omega)]
theorem pa_c_out {b : Nat → Int32} {i n : Nat} {v : Int32} (h : n ≤ i) : pa_c (upd b i v) n = pa_c b n := pa_c_congr (fun j hj => pk_un (by omega))
theorem pa_c_upd {b : Nat → Int32} {i : Nat} {v : Int32} (hb : b i = -1) (hv : ¬ v = -1) : ∀ {n : Nat}, i < n → pa_c (upd b i v) n + 1 = pa_c b n
  | 0, h => by omega
  | n + 1, h => by
    unfold pa_c
    by_cases e : n = i
    · subst e
      rw [pa_c_out (Nat.le_refl n), pk_us, if_neg hv, if_pos hb]
    · rw [pk_un e]
      have ih := pa_c_upd hb hv (n := n) (by omega)
      omega
theorem pa_c_0 {b : Nat → Int32} : ∀ {n : Nat}, pa_c b n = 0 ↔ ∀ i, i < n → ¬ b i = -1
  | 0 => ⟨fun _ i hi => absurd hi (by omega), fun _ => rfl⟩
  | n + 1 => by
    unfold pa_c
    have ih := pa_c_0 (b := b) (n := n)
    constructor
    · intro h i hi
      by_cases e : b n = -1
      · rw [if_pos e] at h; omega
      · rcases Nat.lt_or_ge i n with z | z
        · exact ih.mp (by omega) i z
        · rw [show i = n by omega]; exact e
    · intro h
      rw [if_neg (h n (by omega)), ih.mpr (fun i hi => h i (by omega))]
theorem pa_c_all {b : Nat → Int32} : ∀ {n : Nat}, (∀ i, i < n → b i = -1) → pa_c b n = n
  | 0, _ => rfl
  | n + 1, h => by
    unfold pa_c
    rw [pa_c_all (n := n) (fun i hi => h i (by omega)), if_pos (h n (by omega))]
theorem pa_tB (b fd : Nat → Int32) (fr : Nat) : ∀ (k i : Nat), px_tB b fd fr k i = if fr ≤ i ∧ i < fr + k ∧ b i = -1 then fd (i - fr) else b i
  | 0, i => by
    rw [if_neg (by omega)]
    rfl
  | k + 1, i => by
    unfold px_tB
    have e : px_tB b fd fr k (fr + k) = b (fr + k) := by rw [pa_tB b fd fr k, if_neg (by omega)]
    rw [e]
    by_cases h : b (fr + k) = -1
    · rw [if_pos h]
      by_cases hi : i = fr + k
      · subst hi
        rw [pk_us, if_pos ⟨by omega, by omega, h⟩, Nat.add_sub_cancel_left]
      · rw [pk_un hi, pa_tB b fd fr k]
        by_cases h2 : fr ≤ i ∧ i < fr + k ∧ b i = -1
        · rw [if_pos h2, if_pos ⟨h2.1, by omega, h2.2.2⟩]
        · rw [if_neg h2, if_neg (fun q => h2 ⟨q.1, by omega, q.2.2⟩)]
    · rw [if_neg h, pa_tB b fd fr k]
      by_cases h2 : fr ≤ i ∧ i < fr + k ∧ b i = -1
      · rw [if_pos h2, if_pos ⟨h2.1, by omega, h2.2.2⟩]
      · rw [if_neg h2, if_neg (fun q => h2 ⟨q.1, by
          rcases Nat.lt_or_ge i (fr + k) with z | z
          · exact z
          · exact absurd q.2.2 (by rw [show i = fr + k by omega]; exact h), q.2.2⟩)]
theorem pa_tL {b fd : Nat → Int32} {fr n : Nat} : ∀ {k : Nat}, fr + k ≤ n → (∀ i, i < k → ¬ fd i = -1) → px_tL b fd fr (nI (pa_c b n)) k = nI (pa_c (px_tB b fd fr k) n)
  | 0, _, _ => rfl
  | k + 1, h, hf => by
    have ih := pa_tL (b := b) (fd := fd) (fr := fr) (n := n) (k := k) (by omega) (fun i hi => hf i (by omega))
    have e1 : px_tL b fd fr (nI (pa_c b n)) (k + 1) = if px_tB b fd fr k (fr + k) = -1 then px_tL b fd fr (nI (pa_c b n)) k - 1 else px_tL b fd fr (nI (pa_c b n)) k := rfl
    have e2 : px_tB b fd fr (k + 1) = if px_tB b fd fr k (fr + k) = -1 then upd (px_tB b fd fr k) (fr + k) (fd k) else px_tB b fd fr k := rfl
    rw [e1, e2]
    by_cases e : px_tB b fd fr k (fr + k) = -1
    · rw [if_pos e, if_pos e, ih]
      have hc := pa_c_upd (v := fd k) e (hf k (by omega)) (n := n) (by omega)
      rw [← hc, nI_pred]
    · rw [if_neg e, if_neg e, ih]
/-- px_rot picks places -/
def px_pi (k nb q : Nat) : Nat := if q + 1 = nb then k else if k ≤ q ∧ q + 1 < nb then q + 1 else q
theorem px_rot_pi {sg : Nat → Nat} {k nb : Nat} (hk : k < nb) (q : Nat) : px_rot sg k nb q = sg (px_pi k nb q) := by
  unfold px_rot px_pi va_up px_sh
  by_cases h : q = nb - 1
  · rw [if_pos h, if_pos (by omega)]
  · rw [if_neg h]
    by_cases h2 : k ≤ q ∧ q < nb - 1
    · rw [if_pos h2, if_neg (show ¬ q + 1 = nb by omega), if_pos (show k ≤ q ∧ q + 1 < nb by omega)]
    · rw [if_neg h2, if_neg (show ¬ q + 1 = nb by omega), if_neg (show ¬ (k ≤ q ∧ q + 1 < nb) by omega)]
theorem px_pi_inj {k nb q r : Nat} (hk : k < nb) (h : px_pi k nb q = px_pi k nb r) : q = r := by
  unfold px_pi at h
  split at h <;> split at h <;> (try split at h) <;> (try split at h) <;> omega
theorem px_pi_lt {k nb q : Nat} (hk : k < nb) (hn : nb ≤ 4) (hq : q < 4) : px_pi k nb q < 4 := by
  unfold px_pi
  split
  · omega
  · split <;> omega
/-- the bench's places and lastWhole are five different Datagrams -/
def px_inj (sg : Nat → Nat) (lw : Nat) : Prop := (∀ q, q < 4 → sg q < 5) ∧ lw < 5 ∧ (∀ q r, q < 4 → r < 4 → sg q = sg r → q = r) ∧ ∀ q, q < 4 → ¬ sg q = lw
theorem px_inj_rot {sg : Nat → Nat} {lw k nb : Nat} (h : px_inj sg lw) (hk : k < nb) (hn : nb ≤ 4) : px_inj (px_rot sg k nb) lw := by
  obtain ⟨h1, h2, h3, h4⟩ := h
  refine ⟨px_rot_lt h1 hk hn, h2, fun q r hq hr e => ?_, fun q hq e => ?_⟩
  · rw [px_rot_pi hk, px_rot_pi hk] at e
    exact px_pi_inj hk (h3 _ _ (px_pi_lt hk hn hq) (px_pi_lt hk hn hr) e)
  · rw [px_rot_pi hk] at e
    exact h4 _ (px_pi_lt hk hn hq) e
theorem px_inj_swap {sg : Nat → Nat} {lw k : Nat} (h : px_inj sg lw) (hk : k < 4) : px_inj (va_up sg k lw) (sg k) := by
  obtain ⟨h1, h2, h3, h4⟩ := h
  refine ⟨fun q hq => ?_, h1 k hk, fun q r hq hr e => ?_, fun q hq e => ?_⟩
  · unfold va_up
    split
    · exact h2
    · exact h1 q hq
  · unfold va_up at e
    by_cases a : q = k <;> by_cases b : r = k
    · omega
    · rw [if_pos a, if_neg b] at e
      exact absurd e.symm (h4 r hr)
    · rw [if_neg a, if_pos b] at e
      exact absurd e (h4 q hq)
    · rw [if_neg a, if_neg b] at e
      exact h3 q r hq hr e
  · unfold va_up at e
    by_cases a : q = k
    · rw [if_pos a] at e
      exact h4 k hk e.symm
    · rw [if_neg a] at e
      exact a (h3 q k hq hk e)
end
section
set_option maxHeartbeats 4000000 in
set_option maxRecDepth 100000 in
/-- Datagram() -/
theorem px_c_dinit (l : Launch) (D : va_G) (q sz : Nat) : pw_Mv l yX0_init cX0_init 1 ({ frames := 1, cells := 1, slots := 1480, locals := 60 }) D [] [.ref q] [(q, .inr (cD, [.null, .int 0, .int 0, .int 0, .int 0, .int 0, .int 0]))] sz (σ := Nat × ClassId) (fun _ => True) (fun u => [(q, .inr (cD, px_fs u.1 (0, 0, 0, 0, 0, 0))), (u.1, .inl (u.2, 1480, .inl (fun _ => 0)))]) (fun u => [(u.2, .int)]) 1 1480 := by
  refine pw_openV (by decide) (Nat.le_of_ble_eq_true rfl) ?_
  intro p e s m below meth c ls S hr hlk hnm hl hsz w
  obtain ⟨hx, hb, hml, hown, hts⟩ := id S
  have hl : lv_has ls 1 [(0, .ref q)] := hl
  generalize va_A [(q, .inr (cD, [.null, .int 0, .int 0, .int 0, .int 0, .int 0, .int 0]))] sz = A at w ⊢
  refine lv_aload_n hx hb dX0_init_0 rfl (lv_at hl 0 rfl) ?_
  refine pw_oinit S eD_3 iO kO hl.1 (by decide) (by decide) dX0_init_1 ?_
  refine lv_aload_n hx hb dX0_init_4 rfl (lv_at hl 0 rfl) ?_
  refine lv_sipush (v := 1480) hx hb dX0_init_5 (by decide) ?_
  refine pw_newi S w arI (n := 1480) (N := 1480) (by decide) (by decide) (by decide) (by decide) (by decide) dX0_init_8 (fun b cA H w => ?_)
  have w : pw_S D [(cA, .int)] A [(q, .inr (cD, [.null, .int 0, .int 0, .int 0, .int 0, .int 0, .int 0])), (b, .inl (cA, 1480, .inl (fun _ => 0)))] s H [] := w
  refine pw_putF S w px_FD 0 (fs := [.null, .int 0, .int 0, .int 0, .int 0, .int 0, .int 0]) rfl 0 (by decide) eD_9 rfl hnm rfl (v := .ref b) rfl rfl (Nat.le_of_ble_eq_true rfl) dX0_init_10 (fun H locs w => ?_)
  exact pw_retv S hr hlk (b, cA) w trivial (by decide) (by decide) dX0_init_13

set_option maxHeartbeats 4000000 in
set_option maxRecDepth 100000 in
/-- Datagram.isTold -/
theorem px_c_isTold (l : Launch) (D : va_G) (a0 af ab : Nat) (o ar : Nat → Nat) (cI cO : ClassId) (fd : Nat → Int32) (nf : Nat) (sg : Nat → Nat) (nb : Nat) (lw : Nat) (aw : Int32) (tm : Nat) (G : Nat → px_G) (B : Nat → Nat → Int32) (sz : Nat) (j : Nat) (hj : j < 5) (a b d3 : Int32) : pw_Mi l yX0_isTold cX0_isTold 4 .boolean ({ frames := 0, cells := 0, slots := 0, locals := 0 }) D (px_T cI cO) [.ref (o j), .int a, .int b, .int d3] (px_W a0 af ab o ar cI cO fd nf sg nb lw aw tm G B) sz (σ := Unit) (fun r _ => (r = 1 ∧ px_tl (G j) a b d3) ∨ (r = 0 ∧ ¬ px_tl (G j) a b d3)) (fun _ => px_W a0 af ab o ar cI cO fd nf sg nb lw aw tm G B) 0 0 := by
  refine pw_openI (by decide) (Nat.le_of_ble_eq_true rfl) ?_
  intro p e s m below meth c ls S hr hlk hl hsz w
  obtain ⟨hx, hb, hml, hown, hts⟩ := id S
  have hl : lv_has ls 4 [(0, .ref (o j)), (1, .int a), (2, .int b), (3, .int d3)] := hl
  generalize va_A (px_W a0 af ab o ar cI cO fd nf sg nb lw aw tm G B) sz = A at w ⊢
  refine lv_aload_n hx hb dX0_isTold_0 rfl (lv_at hl 0 rfl) ?_
  refine pw_get S w px_FD (3 + 2 * j) (px_ato hj) 1 (by decide) eD_15 (v := .int (G j).1) rfl dX0_isTold_1 ?_
  refine lv_iload_n hx hb dX0_isTold_4 rfl (lv_at hl 1 rfl) ?_
  refine lv_icmp_ne (tgt := 28) hx hb dX0_isTold_5 (by decide) (fun h1 => ?_) (fun h1 => ?_)
  · refine lv_iconst (v := 0) hx hb dX0_isTold_28 (by decide) ?_
    exact pw_retz S hr hlk () rfl w (Or.inr ⟨rfl, fun q => h1 q.1⟩) (by decide) (by decide) dX0_isTold_29
  · refine lv_aload_n hx hb dX0_isTold_8 rfl (lv_at hl 0 rfl) ?_
    refine pw_get S w px_FD (3 + 2 * j) (px_ato hj) 2 (by decide) eD_19 (v := .int (G j).2.1) rfl dX0_isTold_9 ?_
    refine lv_iload_n hx hb dX0_isTold_12 rfl (lv_at hl 2 rfl) ?_
    refine lv_icmp_ne (tgt := 28) hx hb dX0_isTold_13 (by decide) (fun h2 => ?_) (fun h2 => ?_)
    · refine lv_iconst (v := 0) hx hb dX0_isTold_28 (by decide) ?_
      exact pw_retz S hr hlk () rfl w (Or.inr ⟨rfl, fun q => h2 q.2.1⟩) (by decide) (by decide) dX0_isTold_29
    · refine lv_aload_n hx hb dX0_isTold_16 rfl (lv_at hl 0 rfl) ?_
      refine pw_get S w px_FD (3 + 2 * j) (px_ato hj) 3 (by decide) eD_22 (v := .int (G j).2.2.1) rfl dX0_isTold_17 ?_
      refine lv_iload_n hx hb dX0_isTold_20 rfl (lv_at hl 3 rfl) ?_
      refine lv_icmp_ne (tgt := 28) hx hb dX0_isTold_21 (by decide) (fun h3 => ?_) (fun h3 => ?_)
      · refine lv_iconst (v := 0) hx hb dX0_isTold_28 (by decide) ?_
        exact pw_retz S hr hlk () rfl w (Or.inr ⟨rfl, fun q => h3 q.2.2⟩) (by decide) (by decide) dX0_isTold_29
      · refine lv_iconst (v := 1) hx hb dX0_isTold_24 (by decide) ?_
        refine lv_goto (tgt := 29) hx hb dX0_isTold_25 (by decide) ?_
        exact pw_retz S hr hlk () rfl w (Or.inl ⟨rfl, h1, h2, h3⟩) (by decide) (by decide) dX0_isTold_29

set_option maxHeartbeats 4000000 in
set_option maxRecDepth 100000 in
/-- Datagram.holds -/
theorem px_c_holds (l : Launch) (D : va_G) (a0 af ab : Nat) (o ar : Nat → Nat) (cI cO : ClassId) (fd : Nat → Int32) (nf : Nat) (sg : Nat → Nat) (nb : Nat) (lw : Nat) (aw : Int32) (tm : Nat) (G : Nat → px_G) (B : Nat → Nat → Int32) (sz : Nat) (j : Nat) (hj : j < 5) (i : Int32) (zs : Nat) (hz : (G j).2.2.2.1 = nI zs) (hzs : zs ≤ 1480) : pw_Mi l yX0_holds cX0_holds 2 .boolean ({ frames := 0, cells := 0, slots := 0, locals := 0 }) D (px_T cI cO) [.ref (o j), .int i] (px_W a0 af ab o ar cI cO fd nf sg nb lw aw tm G B) sz (σ := Unit) (fun r _ => (r = 1 ∧ px_hd zs (B j) i) ∨ (r = 0 ∧ ¬ px_hd zs (B j) i)) (fun _ => px_W a0 af ab o ar cI cO fd nf sg nb lw aw tm G B) 0 0 := by
  refine pw_openI (by decide) (Nat.le_of_ble_eq_true rfl) ?_
  intro p e s m below meth c ls S hr hlk hl hsz w
  obtain ⟨hx, hb, hml, hown, hts⟩ := id S
  have hl : lv_has ls 2 [(0, .ref (o j)), (1, .int i)] := hl
  generalize va_A (px_W a0 af ab o ar cI cO fd nf sg nb lw aw tm G B) sz = A at w ⊢
  refine lv_iload_n hx hb dX0_holds_0 rfl (lv_at hl 1 rfl) ?_
  refine lv_if_lt (tgt := 26) hx hb dX0_holds_1 (by decide) (fun h1 => ?_) (fun h1 => ?_)
  · refine lv_iconst (v := 0) hx hb dX0_holds_26 (by decide) ?_
    exact pw_retz S hr hlk () rfl w (Or.inr ⟨rfl, fun q => q.1 h1⟩) (by decide) (by decide) dX0_holds_27
  · refine lv_iload_n hx hb dX0_holds_4 rfl (lv_at hl 1 rfl) ?_
    refine lv_aload_n hx hb dX0_holds_5 rfl (lv_at hl 0 rfl) ?_
    refine pw_get S w px_FD (3 + 2 * j) (px_ato hj) 4 (by decide) eD_25 (v := .int (G j).2.2.2.1) rfl dX0_holds_6 ?_
    refine lv_icmp_ge (tgt := 26) hx hb dX0_holds_9 (by decide) (fun h2 => ?_) (fun h2 => ?_)
    · refine lv_iconst (v := 0) hx hb dX0_holds_26 (by decide) ?_
      exact pw_retz S hr hlk () rfl w (Or.inr ⟨rfl, fun q => q.2.1 (by rw [← hz]; exact h2)⟩) (by decide) (by decide) dX0_holds_27
    · refine lv_aload_n hx hb dX0_holds_12 rfl (lv_at hl 0 rfl) ?_
      refine pw_get S w px_FD (3 + 2 * j) (px_ato hj) 0 (by decide) eD_9 (v := .ref (ar j)) rfl dX0_holds_13 ?_
      refine lv_iload_n hx hb dX0_holds_16 rfl (lv_at hl 1 rfl) ?_
      obtain ⟨i9, hi9, rfl⟩ := nI_of h1
      have h2 : ¬ nI zs ≤ nI i9 := by rw [← hz]; exact h2
      have hlt : i9 < zs := Nat.lt_of_not_le (fun q => h2 (nI_le q (by omega)))
      refine pw_iald S w (4 + 2 * j) 0 (px_ata hj) rfl (j := i9) (by omega) (by decide) dX0_holds_17 ?_
      refine lv_iconst (v := (-1)) hx hb dX0_holds_18 (by decide) ?_
      refine lv_icmp_eq (tgt := 26) hx hb dX0_holds_19 (by decide) (fun h3 => ?_) (fun h3 => ?_)
      · refine lv_iconst (v := 0) hx hb dX0_holds_26 (by decide) ?_
        exact pw_retz S hr hlk () rfl w (Or.inr ⟨rfl, fun q => q.2.2 (by rw [nI_clamp hi9]; exact h3)⟩) (by decide) (by decide) dX0_holds_27
      · refine lv_iconst (v := 1) hx hb dX0_holds_22 (by decide) ?_
        refine lv_goto (tgt := 27) hx hb dX0_holds_23 (by decide) ?_
        exact pw_retz S hr hlk () rfl w (Or.inl ⟨rfl, h1, by rw [nI_leI (by omega) hi9]; omega, by rw [nI_clamp hi9]; exact h3⟩) (by decide) (by decide) dX0_holds_27

set_option maxHeartbeats 4000000 in
set_option maxRecDepth 100000 in
/-- Arrays.fill -/
theorem px_c_fill (l : Launch) (D : va_G) (a0 af ab : Nat) (o ar : Nat → Nat) (cI cO : ClassId) (fd : Nat → Int32) (nf : Nat) (sg : Nat → Nat) (nb : Nat) (lw : Nat) (aw : Int32) (tm : Nat) (G : Nat → px_G) (B : Nat → Nat → Int32) (sz : Nat) (j : Nat) (hj : j < 5) (b : Nat → Int32) (v : Int32) : pw_Mv l yF cF 4 ({ frames := 0, cells := 0, slots := 0, locals := 0 }) D (px_T cI cO) [.ref (ar j), .int v] (px_W a0 af ab o ar cI cO fd nf sg nb lw aw tm G (va_up B j b)) sz (σ := Unit) (fun _ => True) (fun _ => px_W a0 af ab o ar cI cO fd nf sg nb lw aw tm G (va_up B j (px_fl b v 1480))) (fun _ => px_T cI cO) 0 0 := by
  refine pw_openV (by decide) (Nat.le_of_ble_eq_true rfl) ?_
  intro p e s m below meth c ls S hr hlk hnm hl hsz w
  obtain ⟨hx, hb, hml, hown, hts⟩ := id S
  have hl : lv_has ls 4 [(0, .ref (ar j)), (1, .int v)] := hl
  generalize va_A (px_W a0 af ab o ar cI cO fd nf sg nb lw aw tm G (va_up B j b)) sz = A at w ⊢
  refine lv_iconst (v := 0) hx hb dF_0 (by decide) ?_
  refine lv_istore_n (lv' := [(2, .int 0), (0, .ref (ar j)), (1, .int v)]) hx hb dF_1 rfl hl (by decide) rfl (fun ls hl => ?_)
  refine lv_aload_n hx hb dF_2 rfl (lv_at hl 1 rfl) ?_
  refine va_alen hx hb w.1 w.2.1 (4 + 2 * j) 0 (px_ata' hj) (ty := .int) rfl (v := 1480) rfl dF_3 ?_
  refine lv_istore_n (lv' := [(3, .int 1480), (2, .int 0), (0, .ref (ar j)), (1, .int v)]) hx hb dF_4 rfl hl (by decide) rfl (fun ls hl => ?_)
  have loop : ∀ (n i : Nat), i ≤ 1480 → 1480 < i + n → ∀ (H : Heap) (locs : List Loc), pw_S D (px_T cI cO) A (px_W a0 af ab o ar cI cO fd nf sg nb lw aw tm G (va_up B j (px_fl b v i))) s H locs → ∀ (ls : Array Slot), lv_has ls 4 [(2, .int (nI i)), (3, .int 1480), (0, .ref (ar j)), (1, .int v)] → W p l e ({ frames := 0, cells := 0, slots := 0, locals := 0 }) s m #[Value.ref (ar j), Value.int v] below meth c H locs 0 0 (MQ below (va_Qv (S := Unit) (fun _ => True) (pw_B D (fun _ => px_W a0 af ab o ar cI cO fd nf sg nb lw aw tm G (va_up B j (px_fl b v 1480))) (fun _ => px_T cI cO) A) A) #[Value.ref (ar j), Value.int v] s 0 0 A) (F0 m 5 ls []) := by
    intro n
    induction n with
    | zero => intro i h1 h2; omega
    | succ n ih =>
      intro i hi hn H locs w ls hl
      refine lv_iload_n hx hb dF_5 rfl (lv_at hl 0 rfl) ?_
      refine lv_iload_n hx hb dF_6 rfl (lv_at hl 1 rfl) ?_
      refine lv_icmp_ge (tgt := 20) hx hb dF_7 (by decide) (fun h1 => ?_) (fun h1 => ?_)
      · have e9 : i = 1480 := by have := (nI_leI (a := 1480) (b := i) (by decide) (by omega)).mp h1; omega
        subst e9
        exact pw_retv S hr hlk () w trivial (by decide) (by decide) dF_20
      · have hlt : i < 1480 := Nat.lt_of_not_le (fun q => h1 ((nI_leI (a := 1480) (b := i) (by decide) (by omega)).mpr q))
        refine lv_aload_n hx hb dF_10 rfl (lv_at hl 2 rfl) ?_
        refine lv_iload_n hx hb dF_11 rfl (lv_at hl 0 rfl) ?_
        refine lv_iload_n hx hb dF_12 rfl (lv_at hl 3 rfl) ?_
        refine pw_iast S w (4 + 2 * j) 0 (px_ata' hj) rfl (j := i) (by omega) (by decide) dF_13 (fun H locs w => ?_)
        have w : pw_S D (px_T cI cO) A (px_W a0 af ab o ar cI cO fd nf sg nb lw aw tm G (va_up B j (px_fl b v (i + 1)))) s _ _ := w.to (by rw [px_seta' hj, px_fl_s])
        refine lv_iinc (v := nI (i + 1)) (lv' := [(2, .int (nI (i + 1))), (3, .int 1480), (0, .ref (ar j)), (1, .int v)]) hx hb dF_14 hl (k := 0) rfl (nI_1 i) (by decide) rfl (fun ls hl => ?_)
        refine lv_goto (tgt := 5) hx hb dF_17 (by decide) ?_
        exact ih (i + 1) (by omega) (by omega) H locs w ls hl
  exact loop 1481 0 (by omega) (by omega) _ _ (w.to (by rw [px_fl_0])) ls (lv_sub hl [1, 0, 2, 3] rfl)

set_option maxHeartbeats 4000000 in
set_option maxRecDepth 100000 in
/-- Datagram.begin -/
theorem px_c_begin (l : Launch) (D : va_G) (a0 af ab : Nat) (o ar : Nat → Nat) (cI cO : ClassId) (fd : Nat → Int32) (nf : Nat) (sg : Nat → Nat) (nb : Nat) (lw : Nat) (aw : Int32) (tm : Nat) (G : Nat → px_G) (B : Nat → Nat → Int32) (sz : Nat) (j : Nat) (hj : j < 5) (g : px_G) (b : Nat → Int32) (a1 a2 a3 a4 a5 : Int32) : pw_Mv l yX0_begin cX0_begin 6 ({ frames := 1, cells := 0, slots := 0, locals := 60 }) D (px_T cI cO) [.ref (o j), .int a1, .int a2, .int a3, .int a4, .int a5] (px_W a0 af ab o ar cI cO fd nf sg nb lw aw tm (va_up G j g) (va_up B j b)) sz (σ := Unit) (fun _ => True) (fun _ => px_W a0 af ab o ar cI cO fd nf sg nb lw aw tm (va_up G j (a1, a2, a3, a4, a4, a5)) (va_up B j (px_fl b (-1) 1480))) (fun _ => px_T cI cO) 0 0 := by
  refine pw_openV (by decide) (Nat.le_of_ble_eq_true rfl) ?_
  intro p e s m below meth c ls S hr hlk hnm hl hsz w
  obtain ⟨hx, hb, hml, hown, hts⟩ := id S
  have hl : lv_has ls 6 [(0, .ref (o j)), (1, .int a1), (2, .int a2), (3, .int a3), (4, .int a4), (5, .int a5)] := hl
  generalize va_A (px_W a0 af ab o ar cI cO fd nf sg nb lw aw tm (va_up G j g) (va_up B j b)) sz = A at w ⊢
  refine lv_aload_n hx hb dX0_begin_0 rfl (lv_at hl 0 rfl) ?_
  refine lv_iload_n hx hb dX0_begin_1 rfl (lv_at hl 1 rfl) ?_
  refine pw_put S w px_FD (3 + 2 * j) (px_ato' hj) 1 (by decide) eD_15 rfl (v := .int a1) rfl rfl (Nat.le_of_ble_eq_true rfl) dX0_begin_2 (fun H locs w => ?_)
  have w : pw_S D (px_T cI cO) A (px_W a0 af ab o ar cI cO fd nf sg nb lw aw tm (va_up G j (a1, g.2.1, g.2.2.1, g.2.2.2.1, g.2.2.2.2.1, g.2.2.2.2.2)) (va_up B j b)) s _ _ := w.to (px_seto' hj (a1, g.2.1, g.2.2.1, g.2.2.2.1, g.2.2.2.2.1, g.2.2.2.2.2))
  refine lv_aload_n hx hb dX0_begin_5 rfl (lv_at hl 0 rfl) ?_
  refine lv_iload_n hx hb dX0_begin_6 rfl (lv_at hl 2 rfl) ?_
  refine pw_put S w px_FD (3 + 2 * j) (px_ato' hj) 2 (by decide) eD_19 rfl (v := .int a2) rfl rfl (Nat.le_of_ble_eq_true rfl) dX0_begin_7 (fun H locs w => ?_)
  have w : pw_S D (px_T cI cO) A (px_W a0 af ab o ar cI cO fd nf sg nb lw aw tm (va_up G j (a1, a2, g.2.2.1, g.2.2.2.1, g.2.2.2.2.1, g.2.2.2.2.2)) (va_up B j b)) s _ _ := w.to (px_seto' hj (a1, a2, g.2.2.1, g.2.2.2.1, g.2.2.2.2.1, g.2.2.2.2.2))
  refine lv_aload_n hx hb dX0_begin_10 rfl (lv_at hl 0 rfl) ?_
  refine lv_iload_n hx hb dX0_begin_11 rfl (lv_at hl 3 rfl) ?_
  refine pw_put S w px_FD (3 + 2 * j) (px_ato' hj) 3 (by decide) eD_22 rfl (v := .int a3) rfl rfl (Nat.le_of_ble_eq_true rfl) dX0_begin_12 (fun H locs w => ?_)
  have w : pw_S D (px_T cI cO) A (px_W a0 af ab o ar cI cO fd nf sg nb lw aw tm (va_up G j (a1, a2, a3, g.2.2.2.1, g.2.2.2.2.1, g.2.2.2.2.2)) (va_up B j b)) s _ _ := w.to (px_seto' hj (a1, a2, a3, g.2.2.2.1, g.2.2.2.2.1, g.2.2.2.2.2))
  refine lv_aload_n hx hb dX0_begin_15 rfl (lv_at hl 0 rfl) ?_
  refine lv_iload hx hb dX0_begin_16 (lv_at hl 4 rfl) ?_
  refine pw_put S w px_FD (3 + 2 * j) (px_ato' hj) 4 (by decide) eD_25 rfl (v := .int a4) rfl rfl (Nat.le_of_ble_eq_true rfl) dX0_begin_18 (fun H locs w => ?_)
  have w : pw_S D (px_T cI cO) A (px_W a0 af ab o ar cI cO fd nf sg nb lw aw tm (va_up G j (a1, a2, a3, a4, g.2.2.2.2.1, g.2.2.2.2.2)) (va_up B j b)) s _ _ := w.to (px_seto' hj (a1, a2, a3, a4, g.2.2.2.2.1, g.2.2.2.2.2))
  refine lv_aload_n hx hb dX0_begin_21 rfl (lv_at hl 0 rfl) ?_
  refine lv_iload hx hb dX0_begin_22 (lv_at hl 4 rfl) ?_
  refine pw_put S w px_FD (3 + 2 * j) (px_ato' hj) 5 (by decide) eD_28 rfl (v := .int a4) rfl rfl (Nat.le_of_ble_eq_true rfl) dX0_begin_24 (fun H locs w => ?_)
  have w : pw_S D (px_T cI cO) A (px_W a0 af ab o ar cI cO fd nf sg nb lw aw tm (va_up G j (a1, a2, a3, a4, a4, g.2.2.2.2.2)) (va_up B j b)) s _ _ := w.to (px_seto' hj (a1, a2, a3, a4, a4, g.2.2.2.2.2))
  refine lv_aload_n hx hb dX0_begin_27 rfl (lv_at hl 0 rfl) ?_
  refine lv_iload hx hb dX0_begin_28 (lv_at hl 5 rfl) ?_
  refine pw_put S w px_FD (3 + 2 * j) (px_ato' hj) 6 (by decide) eD_31 rfl (v := .int a5) rfl rfl (Nat.le_of_ble_eq_true rfl) dX0_begin_30 (fun H locs w => ?_)
  have w : pw_S D (px_T cI cO) A (px_W a0 af ab o ar cI cO fd nf sg nb lw aw tm (va_up G j (a1, a2, a3, a4, a4, a5)) (va_up B j b)) s _ _ := w.to (px_seto' hj (a1, a2, a3, a4, a4, a5))
  refine lv_aload_n hx hb dX0_begin_33 rfl (lv_at hl 0 rfl) ?_
  refine pw_get S w px_FD (3 + 2 * j) (px_ato' hj) 0 (by decide) eD_9 (v := .ref (ar j)) rfl dX0_begin_34 ?_
  refine lv_iconst (v := (-1)) hx hb dX0_begin_37 (by decide) ?_
  refine pw_gov0 w.all (va_runS (As := [.ref (ar j), .int (-1)]) (rest := []) S (px_c_fill l D a0 af ab o ar cI cO fd nf sg nb lw aw tm (va_up G j (a1, a2, a3, a4, a4, a5)) B _ j hj b (-1)) (pw_cs (n := 2) S eD_34 tF iniF kF rfl rfl (by decide +kernel) ⟨by decide, by decide⟩) ⟨pw_blind, pw_pre w.all w.1⟩ rfl rfl hl.1 rfl (lv_room (Nat.le_of_ble_eq_true rfl)) dX0_begin_38 ⟨Nat.zero_le _, Nat.zero_le _⟩) (fun _ H locs _ _ w => ?_)
  have w := w.one
  exact pw_retv S hr hlk () w trivial (by decide) (by decide) dX0_begin_41

set_option maxHeartbeats 4000000 in
set_option maxRecDepth 100000 in
/-- Datagram.take -/
theorem px_c_take (l : Launch) (D : va_G) (a0 af ab : Nat) (o ar : Nat → Nat) (cI cO : ClassId) (fd : Nat → Int32) (nf : Nat) (sg : Nat → Nat) (nb : Nat) (lw : Nat) (aw : Int32) (tm : Nat) (G : Nat → px_G) (B : Nat → Nat → Int32) (sz : Nat) (j : Nat) (hj : j < 5) (g : px_G) (b : Nat → Int32) (ct fr : Nat) (hct : ct + fr ≤ 1480) : pw_Mv l yX0_take cX0_take 5 ({ frames := 0, cells := 0, slots := 0, locals := 0 }) D (px_T cI cO) [.ref (o j), .ref af, .int (nI ct), .int (nI fr)] (px_W a0 af ab o ar cI cO fd nf sg nb lw aw tm (va_up G j g) (va_up B j b)) sz (σ := Unit) (fun _ => True) (fun _ => px_W a0 af ab o ar cI cO fd nf sg nb lw aw tm (va_up G j (g.1, g.2.1, g.2.2.1, g.2.2.2.1, px_tL b fd fr g.2.2.2.2.1 ct, g.2.2.2.2.2)) (va_up B j (px_tB b fd fr ct))) (fun _ => px_T cI cO) 0 0 := by
  refine pw_openV (by decide) (Nat.le_of_ble_eq_true rfl) ?_
  intro p e s m below meth c ls S hr hlk hnm hl hsz w
  obtain ⟨hx, hb, hml, hown, hts⟩ := id S
  have hl : lv_has ls 5 [(0, .ref (o j)), (1, .ref af), (2, .int (nI ct)), (3, .int (nI fr))] := hl
  generalize va_A (px_W a0 af ab o ar cI cO fd nf sg nb lw aw tm (va_up G j g) (va_up B j b)) sz = A at w ⊢
  refine lv_iconst (v := 0) hx hb dX0_take_0 (by decide) ?_
  refine lv_istore (lv' := [(4, .int 0), (0, .ref (o j)), (1, .ref af), (2, .int (nI ct)), (3, .int (nI fr))]) hx hb dX0_take_1 hl (by decide) rfl (fun ls hl => ?_)
  have loop : ∀ (n : Nat) (i : Nat), i ≤ ct → ct < i + n → ∀ (H : Heap) (locs : List Loc), pw_S D (px_T cI cO) A (px_W a0 af ab o ar cI cO fd nf sg nb lw aw tm (va_up G j (g.1, g.2.1, g.2.2.1, g.2.2.2.1, px_tL b fd fr g.2.2.2.2.1 i, g.2.2.2.2.2)) (va_up B j (px_tB b fd fr i))) s H locs → ∀ (ls : Array Slot), lv_has ls 5 [(4, .int (nI i)), (0, .ref (o j)), (1, .ref af), (2, .int (nI ct)), (3, .int (nI fr))] → W p l e ({ frames := 0, cells := 0, slots := 0, locals := 0 }) s m #[Value.ref (o j), Value.ref af, Value.int (nI ct), Value.int (nI fr)] below meth c H locs 0 0 (MQ below (va_Qv (S := Unit) (fun _ => True) (pw_B D (fun _ => px_W a0 af ab o ar cI cO fd nf sg nb lw aw tm (va_up G j (g.1, g.2.1, g.2.2.1, g.2.2.2.1, px_tL b fd fr g.2.2.2.2.1 ct, g.2.2.2.2.2)) (va_up B j (px_tB b fd fr ct))) (fun _ => px_T cI cO) A) A) #[Value.ref (o j), Value.ref af, Value.int (nI ct), Value.int (nI fr)] s 0 0 A) (F0 m 3 ls []) := by
    intro n
    induction n with
    | zero => intros; omega
    | succ n ih =>
      intro i hi hn H locs w ls hl
      refine lv_iload hx hb dX0_take_3 (lv_at hl 0 rfl) ?_
      refine lv_iload_n hx hb dX0_take_5 rfl (lv_at hl 3 rfl) ?_
      refine lv_icmp_ge (tgt := 51) hx hb dX0_take_6 (by decide) (fun h1 => ?_) (fun h1 => ?_)
      · have e9 : i = ct := by have := (nI_leI (a := ct) (b := i) (by omega) (by omega)).mp h1; omega
        subst e9
        exact pw_retv S hr hlk () w trivial (by decide) (by decide) dX0_take_51
      · have hlt : i < ct := Nat.lt_of_not_le (fun q => h1 ((nI_leI (a := ct) (b := i) (by omega) (by omega)).mpr q))
        refine lv_aload_n hx hb dX0_take_9 rfl (lv_at hl 1 rfl) ?_
        refine pw_get S w px_FD (3 + 2 * j) (px_ato' hj) 0 (by decide) eD_9 (v := .ref (ar j)) rfl dX0_take_10 ?_
        refine lv_iload_n hx hb dX0_take_13 rfl (lv_at hl 4 rfl) ?_
        refine lv_iload hx hb dX0_take_14 (lv_at hl 0 rfl) ?_
        refine lv_iadd hx hb dX0_take_16 ?_
        refine pw_top (y := nI (fr + i)) (nI_add fr i) ?_
        refine pw_iald S w (4 + 2 * j) 0 (px_ata' hj) rfl (j := fr + i) (by omega) (by decide) dX0_take_17 ?_
        refine lv_iconst (v := (-1)) hx hb dX0_take_18 (by decide) ?_
        refine lv_icmp_ne (tgt := 45) hx hb dX0_take_19 (by decide) (fun h2 => ?_) (fun h2 => ?_)
        · have w : pw_S D (px_T cI cO) A (px_W a0 af ab o ar cI cO fd nf sg nb lw aw tm (va_up G j (g.1, g.2.1, g.2.2.1, g.2.2.2.1, px_tL b fd fr g.2.2.2.2.1 (i + 1), g.2.2.2.2.2)) (va_up B j (px_tB b fd fr (i + 1)))) s _ _ := w.to (by rw [show px_tB b fd fr (i + 1) = px_tB b fd fr i from if_neg h2, show px_tL b fd fr g.2.2.2.2.1 (i + 1) = px_tL b fd fr g.2.2.2.2.1 i from if_neg h2])
          refine lv_iinc (v := nI (i + 1)) (lv' := [(4, .int (nI (i + 1))), (0, .ref (o j)), (1, .ref af), (2, .int (nI ct)), (3, .int (nI fr))]) hx hb dX0_take_45 hl (k := 0) rfl (nI_1 i) (by decide) rfl (fun ls hl => ?_)
          refine lv_goto (tgt := 3) hx hb dX0_take_48 (by decide) ?_
          exact ih (i + 1) (by omega) (by omega) H locs w ls hl
        · refine lv_aload_n hx hb dX0_take_22 rfl (lv_at hl 1 rfl) ?_
          refine pw_get S w px_FD (3 + 2 * j) (px_ato' hj) 0 (by decide) eD_9 (v := .ref (ar j)) rfl dX0_take_23 ?_
          refine lv_iload_n hx hb dX0_take_26 rfl (lv_at hl 4 rfl) ?_
          refine lv_iload hx hb dX0_take_27 (lv_at hl 0 rfl) ?_
          refine lv_iadd hx hb dX0_take_29 ?_
          refine pw_top (y := nI (fr + i)) (nI_add fr i) ?_
          refine lv_aload_n hx hb dX0_take_30 rfl (lv_at hl 2 rfl) ?_
          refine lv_iload hx hb dX0_take_31 (lv_at hl 0 rfl) ?_
          refine pw_iald S w 1 0 (a := af) (f := fd) (n := 1480) (cA := cI) rfl rfl (j := i) (by omega) (by decide) dX0_take_33 ?_
          refine pw_iast S w (4 + 2 * j) 0 (px_ata' hj) rfl (j := fr + i) (by omega) (by decide) dX0_take_34 (fun H locs w => ?_)
          have w : pw_S D (px_T cI cO) A (px_W a0 af ab o ar cI cO fd nf sg nb lw aw tm (va_up G j (g.1, g.2.1, g.2.2.1, g.2.2.2.1, px_tL b fd fr g.2.2.2.2.1 i, g.2.2.2.2.2)) (va_up B j (upd (px_tB b fd fr i) (fr + i) (fd i)))) s _ _ := w.to (px_seta' hj _)
          refine lv_aload_n hx hb dX0_take_35 rfl (lv_at hl 1 rfl) ?_
          refine lv_dup hx hb dX0_take_36 rfl ?_
          refine pw_get S w px_FD (3 + 2 * j) (px_ato' hj) 5 (by decide) eD_28 (v := .int (g.1, g.2.1, g.2.2.1, g.2.2.2.1, px_tL b fd fr g.2.2.2.2.1 i, g.2.2.2.2.2).2.2.2.2.1) rfl dX0_take_37 ?_
          refine lv_iconst (v := 1) hx hb dX0_take_40 (by decide) ?_
          refine lv_isub hx hb dX0_take_41 ?_
          refine pw_put S w px_FD (3 + 2 * j) (px_ato' hj) 5 (by decide) eD_28 rfl (v := .int (((g.1, g.2.1, g.2.2.1, g.2.2.2.1, px_tL b fd fr g.2.2.2.2.1 i, g.2.2.2.2.2).2.2.2.2.1) - 1)) rfl rfl (Nat.le_of_ble_eq_true rfl) dX0_take_42 (fun H locs w => ?_)
          have w : pw_S D (px_T cI cO) A (px_W a0 af ab o ar cI cO fd nf sg nb lw aw tm (va_up G j (g.1, g.2.1, g.2.2.1, g.2.2.2.1, px_tL b fd fr g.2.2.2.2.1 i - 1, g.2.2.2.2.2)) (va_up B j (upd (px_tB b fd fr i) (fr + i) (fd i)))) s _ _ := w.to (px_seto' hj (g.1, g.2.1, g.2.2.1, g.2.2.2.1, px_tL b fd fr g.2.2.2.2.1 i - 1, g.2.2.2.2.2))
          have w : pw_S D (px_T cI cO) A (px_W a0 af ab o ar cI cO fd nf sg nb lw aw tm (va_up G j (g.1, g.2.1, g.2.2.1, g.2.2.2.1, px_tL b fd fr g.2.2.2.2.1 (i + 1), g.2.2.2.2.2)) (va_up B j (px_tB b fd fr (i + 1)))) s _ _ := w.to (by rw [show px_tB b fd fr (i + 1) = upd (px_tB b fd fr i) (fr + i) (fd i) from if_pos h2, show px_tL b fd fr g.2.2.2.2.1 (i + 1) = px_tL b fd fr g.2.2.2.2.1 i - 1 from if_pos h2])
          refine lv_iinc (v := nI (i + 1)) (lv' := [(4, .int (nI (i + 1))), (0, .ref (o j)), (1, .ref af), (2, .int (nI ct)), (3, .int (nI fr))]) hx hb dX0_take_45 hl (k := 0) rfl (nI_1 i) (by decide) rfl (fun ls hl => ?_)
          refine lv_goto (tgt := 3) hx hb dX0_take_48 (by decide) ?_
          exact ih (i + 1) (by omega) (by omega) H locs w ls hl
  exact loop (ct + 1) 0 (by omega) (by omega) _ _ w ls hl
end
section
set_option maxHeartbeats 4000000 in
set_option maxRecDepth 100000 in
/-- placeOf -/
theorem px_c_placeOf (l : Launch) (D : va_G) (a0 af ab : Nat) (o ar : Nat → Nat) (cI cO : ClassId) (fd : Nat → Int32) (nf : Nat) (sg : Nat → Nat) (nb : Nat) (lw : Nat) (aw : Int32) (tm : Nat) (G : Nat → px_G) (B : Nat → Nat → Int32) (sz : Nat) (hnb : nb ≤ 4) (hsg : ∀ q, q < 4 → sg q < 5) (a b d3 : Int32) : pw_Mi l yX1_placeOf cX1_placeOf 5 .int ({ frames := 1, cells := 0, slots := 0, locals := 60 }) D (px_T cI cO) [.ref a0, .int a, .int b, .int d3] (px_W a0 af ab o ar cI cO fd nf sg nb lw aw tm G B) sz (σ := Unit) (fun r _ => ∃ x, px_fnd sg G nb a b d3 x ∧ r = px_ix x) (fun _ => px_W a0 af ab o ar cI cO fd nf sg nb lw aw tm G B) 0 0 := by
  refine pw_openI (by decide) (Nat.le_of_ble_eq_true rfl) ?_
  intro p e s m below meth c ls S hr hlk hl hsz w
  obtain ⟨hx, hb, hml, hown, hts⟩ := id S
  have hl : lv_has ls 5 [(0, .ref a0), (1, .int a), (2, .int b), (3, .int d3)] := hl
  generalize va_A (px_W a0 af ab o ar cI cO fd nf sg nb lw aw tm G B) sz = A at w ⊢
  refine lv_iconst (v := 0) hx hb dX1_placeOf_0 (by decide) ?_
  refine lv_istore (lv' := [(4, .int 0), (0, .ref a0), (1, .int a), (2, .int b), (3, .int d3)]) hx hb dX1_placeOf_1 hl (by decide) rfl (fun ls hl => ?_)
  have loop : ∀ (n : Nat) (i : Nat), i ≤ nb → nb < i + n → (∀ q, q < i → ¬ px_tl (G (sg q)) a b d3) → ∀ (H : Heap) (locs : List Loc), pw_S D (px_T cI cO) A (px_W a0 af ab o ar cI cO fd nf sg nb lw aw tm G B) s H locs → ∀ (ls : Array Slot), lv_has ls 5 [(4, .int (nI i)), (0, .ref a0), (1, .int a), (2, .int b), (3, .int d3)] → W p l e ({ frames := 1, cells := 0, slots := 0, locals := 60 }) s m #[Value.ref a0, Value.int a, Value.int b, Value.int d3] below meth c H locs 0 0 (MQ below (va_Qi (S := Unit) (fun r _ => ∃ x, px_fnd sg G nb a b d3 x ∧ r = px_ix x) (pw_B D (fun _ => px_W a0 af ab o ar cI cO fd nf sg nb lw aw tm G B) (fun _ => px_T cI cO) A) A) #[Value.ref a0, Value.int a, Value.int b, Value.int d3] s 0 0 A) (F0 m 3 ls []) := by
    intro n
    induction n with
    | zero => intros; omega
    | succ n ih =>
      intro i hi hn hno H locs w ls hl
      refine lv_iload hx hb dX1_placeOf_3 (lv_at hl 0 rfl) ?_
      refine lv_aload_n hx hb dX1_placeOf_5 rfl (lv_at hl 1 rfl) ?_
      refine pw_get S w px_FP 0 rfl 3 (by decide) eP_108 (v := .int (nI nb)) rfl dX1_placeOf_6 ?_
      refine lv_icmp_ge (tgt := 37) hx hb dX1_placeOf_9 (by decide) (fun h1 => ?_) (fun h1 => ?_)
      · have e9 : i = nb := by have := (nI_leI (a := nb) (b := i) (by omega) (by omega)).mp h1; omega
        refine lv_iconst (v := (-1)) hx hb dX1_placeOf_37 (by decide) ?_
        exact pw_reti S hr hlk () w ⟨none, by subst e9; exact hno, rfl⟩ (by decide) (by decide) dX1_placeOf_38
      · have hlt : i < nb := Nat.lt_of_not_le (fun q => h1 ((nI_leI (a := nb) (b := i) (by omega) (by omega)).mpr q))
        have hj : sg i < 5 := hsg i (by omega)
        refine lv_aload_n hx hb dX1_placeOf_12 rfl (lv_at hl 1 rfl) ?_
        refine pw_get S w px_FP 0 rfl 2 (by decide) eP_15 (v := .ref ab) rfl dX1_placeOf_13 ?_
        refine lv_iload hx hb dX1_placeOf_16 (lv_at hl 0 rfl) ?_
        refine pw_aald S w 2 1 (v := o (sg i)) rfl rfl (j := i) (by omega) (by decide) (px_bf_at (by omega)) dX1_placeOf_18 ?_
        refine lv_iload_n hx hb dX1_placeOf_19 rfl (lv_at hl 2 rfl) ?_
        refine lv_iload_n hx hb dX1_placeOf_20 rfl (lv_at hl 3 rfl) ?_
        refine lv_iload_n hx hb dX1_placeOf_21 rfl (lv_at hl 4 rfl) ?_
        refine pw_goi0 w.all (va_runVN (C := RD) (As := [.int a, .int b, .int d3]) (rest := []) S (px_c_isTold l D a0 af ab o ar cI cO fd nf sg nb lw aw tm G B _ (sg i) hj a b d3) (⟨pw_cn (n := 3) S w.2.2.2.2.2 eP_111 iniD kD_isTold rfl rfl (by decide +kernel) ⟨by decide, by decide⟩, S.2.2.2.2 _ iD_isTold, S.2.2.2.2 _ sD_isTold⟩) ⟨pw_blind, va_recv w.1 w.2.1 (ci := cD) (q0 := (3 + 2 * sg i)) rfl (px_ato hj), pw_pre w.all w.1⟩ rfl rfl hl.1 rfl (lv_room (Nat.le_of_ble_eq_true rfl)) dX1_placeOf_22 ⟨Nat.zero_le _, Nat.zero_le _⟩) (fun r _ H locs hp w => ?_)
        have w := w.one
        refine lv_if_eq (tgt := 31) hx hb dX1_placeOf_25 (by decide) (fun h2 => ?_) (fun h2 => ?_)
        · have ht : ¬ px_tl (G (sg i)) a b d3 := by rcases hp with hp | hp; exact absurd (hp.1.symm.trans h2) (by decide); exact hp.2
          refine lv_iinc (v := nI (i + 1)) (lv' := [(4, .int (nI (i + 1))), (0, .ref a0), (1, .int a), (2, .int b), (3, .int d3)]) hx hb dX1_placeOf_31 hl (k := 0) rfl (nI_1 i) (by decide) rfl (fun ls hl => ?_)
          refine lv_goto (tgt := 3) hx hb dX1_placeOf_34 (by decide) ?_
          exact ih (i + 1) (by omega) (by omega) (fun q hq => by rcases Nat.lt_or_ge q i with z | z; exact hno q z; rw [show q = i by omega]; exact ht) H locs w ls hl
        · refine lv_iload hx hb dX1_placeOf_28 (lv_at hl 0 rfl) ?_
          have ht : px_tl (G (sg i)) a b d3 := by rcases hp with hp | hp; exact hp.2; exact absurd hp.1 h2
          exact pw_reti S hr hlk () w ⟨some i, ⟨hlt, ht, hno⟩, rfl⟩ (by decide) (by decide) dX1_placeOf_30
  exact loop (nb + 1) 0 (by omega) (by omega) (fun q hq => absurd hq (by omega)) _ _ w ls hl

set_option maxHeartbeats 4000000 in
set_option maxRecDepth 100000 in
/-- forget -/
theorem px_c_forget (l : Launch) (D : va_G) (a0 af ab : Nat) (o ar : Nat → Nat) (cI cO : ClassId) (fd : Nat → Int32) (nf : Nat) (sg : Nat → Nat) (nb : Nat) (lw : Nat) (aw : Int32) (tm : Nat) (G : Nat → px_G) (B : Nat → Nat → Int32) (sz : Nat) (k : Nat) (hk : k < nb) (hnb : nb ≤ 4) (hsg : ∀ q, q < 4 → sg q < 5) : pw_Mv l yX1_forget cX1_forget 4 ({ frames := 0, cells := 0, slots := 0, locals := 0 }) D (px_T cI cO) [.ref a0, .int (nI k)] (px_W a0 af ab o ar cI cO fd nf sg nb lw aw tm G B) sz (σ := Unit) (fun _ => True) (fun _ => px_W a0 af ab o ar cI cO fd nf (px_rot sg k nb) (nb - 1) lw aw tm G B) (fun _ => px_T cI cO) 0 0 := by
  refine pw_openV (by decide) (Nat.le_of_ble_eq_true rfl) ?_
  intro p e s m below meth c ls S hr hlk hnm hl hsz w
  obtain ⟨hx, hb, hml, hown, hts⟩ := id S
  have hl : lv_has ls 4 [(0, .ref a0), (1, .int (nI k))] := hl
  generalize va_A (px_W a0 af ab o ar cI cO fd nf sg nb lw aw tm G B) sz = A at w ⊢
  have hjk : sg k < 5 := hsg k (by omega)
  refine lv_aload_n hx hb dX1_forget_0 rfl (lv_at hl 0 rfl) ?_
  refine pw_get S w px_FP 0 rfl 2 (by decide) eP_15 (v := .ref ab) rfl dX1_forget_1 ?_
  refine lv_iload_n hx hb dX1_forget_4 rfl (lv_at hl 1 rfl) ?_
  refine pw_aald S w 2 1 (v := o (sg k)) rfl rfl (j := k) (by omega) (by decide) (px_bf_at (by omega)) dX1_forget_5 ?_
  refine lv_astore_n (lv' := [(2, .ref (o (sg k))), (0, .ref a0), (1, .int (nI k))]) hx hb dX1_forget_6 rfl hl (by decide) rfl (fun ls hl => ?_)
  refine lv_aload_n hx hb dX1_forget_7 rfl (lv_at hl 1 rfl) ?_
  refine lv_dup hx hb dX1_forget_8 rfl ?_
  refine pw_get S w px_FP 0 rfl 3 (by decide) eP_108 (v := .int (nI nb)) rfl dX1_forget_9 ?_
  refine lv_iconst (v := 1) hx hb dX1_forget_12 (by decide) ?_
  refine lv_isub hx hb dX1_forget_13 ?_
  refine pw_top (y := nI (nb - 1)) (px_pred (by omega)) ?_
  refine pw_put S w px_FP 0 (fs := [.ref af, .int (nI nf), .ref ab, .int (nI nb), .ref (o lw), .int aw, .int (nI tm)]) rfl 3 (by decide) eP_108 rfl (v := .int (nI (nb - 1))) rfl rfl (Nat.le_of_ble_eq_true rfl) dX1_forget_14 (fun H locs w => ?_)
  have w : pw_S D (px_T cI cO) A (px_W a0 af ab o ar cI cO fd nf sg (nb - 1) lw aw tm G B) s _ _ := w
  refine lv_iload_n hx hb dX1_forget_17 rfl (lv_at hl 2 rfl) ?_
  refine lv_istore_n (lv' := [(3, .int (nI k)), (2, .ref (o (sg k))), (0, .ref a0), (1, .int (nI k))]) hx hb dX1_forget_18 rfl hl (by decide) rfl (fun ls hl => ?_)
  have loop : ∀ (n : Nat) (i : Nat), k ≤ i → i ≤ nb - 1 → nb - 1 < i + n → ∀ (H : Heap) (locs : List Loc), pw_S D (px_T cI cO) A (px_W a0 af ab o ar cI cO fd nf (px_sh sg k i) (nb - 1) lw aw tm G B) s H locs → ∀ (ls : Array Slot), lv_has ls 4 [(3, .int (nI i)), (2, .ref (o (sg k))), (0, .ref a0), (1, .int (nI k))] → W p l e ({ frames := 0, cells := 0, slots := 0, locals := 0 }) s m #[Value.ref a0, Value.int (nI k)] below meth c H locs 0 0 (MQ below (va_Qv (S := Unit) (fun _ => True) (pw_B D (fun _ => px_W a0 af ab o ar cI cO fd nf (px_rot sg k nb) (nb - 1) lw aw tm G B) (fun _ => px_T cI cO) A) A) #[Value.ref a0, Value.int (nI k)] s 0 0 A) (F0 m 19 ls []) := by
    intro n
    induction n with
    | zero => intros; omega
    | succ n ih =>
      intro i hki hi hn H locs w ls hl
      have hsi : ∀ q, q < 4 → px_sh sg k i q < 5 := px_sh_lt hsg (by omega)
      refine lv_iload_n hx hb dX1_forget_19 rfl (lv_at hl 0 rfl) ?_
      refine lv_aload_n hx hb dX1_forget_20 rfl (lv_at hl 2 rfl) ?_
      refine pw_get S w px_FP 0 rfl 3 (by decide) eP_108 (v := .int (nI (nb - 1))) rfl dX1_forget_21 ?_
      refine lv_icmp_ge (tgt := 47) hx hb dX1_forget_24 (by decide) (fun h1 => ?_) (fun h1 => ?_)
      · have e9 : i = nb - 1 := by have := (nI_leI (a := nb - 1) (b := i) (by omega) (by omega)).mp h1; omega
        subst e9
        refine lv_aload_n hx hb dX1_forget_47 rfl (lv_at hl 2 rfl) ?_
        refine pw_get S w px_FP 0 rfl 2 (by decide) eP_15 (v := .ref ab) rfl dX1_forget_48 ?_
        refine lv_aload_n hx hb dX1_forget_51 rfl (lv_at hl 2 rfl) ?_
        refine pw_get S w px_FP 0 rfl 3 (by decide) eP_108 (v := .int (nI (nb - 1))) rfl dX1_forget_52 ?_
        refine lv_aload_n hx hb dX1_forget_55 rfl (lv_at hl 1 rfl) ?_
        refine pw_aast S w 2 1 (3 + 2 * (sg k)) cD (r := cDr) rfl rfl (px_ato hjk) rfl (j := nb - 1) (by omega) (by decide) dX1_forget_56 (fun H locs w => ?_)
        have w : pw_S D (px_T cI cO) A (px_W a0 af ab o ar cI cO fd nf (va_up (px_sh sg k (nb - 1)) (nb - 1) (sg k)) (nb - 1) lw aw tm G B) s _ _ := w.to (px_sets (by omega) _)
        have w : pw_S D (px_T cI cO) A (px_W a0 af ab o ar cI cO fd nf (px_rot sg k nb) (nb - 1) lw aw tm G B) s _ _ := w
        exact pw_retv S hr hlk () w trivial (by decide) (by decide) dX1_forget_57
      · have hlt : i < nb - 1 := Nat.lt_of_not_le (fun q => h1 ((nI_leI (a := nb - 1) (b := i) (by omega) (by omega)).mpr q))
        refine lv_aload_n hx hb dX1_forget_27 rfl (lv_at hl 2 rfl) ?_
        refine pw_get S w px_FP 0 rfl 2 (by decide) eP_15 (v := .ref ab) rfl dX1_forget_28 ?_
        refine lv_iload_n hx hb dX1_forget_31 rfl (lv_at hl 0 rfl) ?_
        refine lv_aload_n hx hb dX1_forget_32 rfl (lv_at hl 2 rfl) ?_
        refine pw_get S w px_FP 0 rfl 2 (by decide) eP_15 (v := .ref ab) rfl dX1_forget_33 ?_
        refine lv_iload_n hx hb dX1_forget_36 rfl (lv_at hl 0 rfl) ?_
        refine lv_iconst (v := 1) hx hb dX1_forget_37 (by decide) ?_
        refine lv_iadd hx hb dX1_forget_38 ?_
        refine pw_top (y := nI (i + 1)) (nI_1 i) ?_
        refine pw_aald S w 2 1 (v := o ((px_sh sg k i) (i + 1))) rfl rfl (j := i + 1) (by omega) (by decide) (px_bf_at (by omega)) dX1_forget_39 ?_
        refine pw_aast S w 2 1 (3 + 2 * (px_sh sg k i (i + 1))) cD (r := cDr) rfl rfl (px_ato (hsi (i + 1) (by omega))) rfl (j := i) (by omega) (by decide) dX1_forget_40 (fun H locs w => ?_)
        have w : pw_S D (px_T cI cO) A (px_W a0 af ab o ar cI cO fd nf (va_up (px_sh sg k i) i (px_sh sg k i (i + 1))) (nb - 1) lw aw tm G B) s _ _ := w.to (px_sets (by omega) _)
        have w : pw_S D (px_T cI cO) A (px_W a0 af ab o ar cI cO fd nf (px_sh sg k (i + 1)) (nb - 1) lw aw tm G B) s _ _ := w.to (by rw [px_sh_s sg hki])
        refine lv_iinc (v := nI (i + 1)) (lv' := [(3, .int (nI (i + 1))), (2, .ref (o (sg k))), (0, .ref a0), (1, .int (nI k))]) hx hb dX1_forget_41 hl (k := 0) rfl (nI_1 i) (by decide) rfl (fun ls hl => ?_)
        refine lv_goto (tgt := 19) hx hb dX1_forget_44 (by decide) ?_
        exact ih (i + 1) (by omega) (by omega) (by omega) H locs w ls hl
  exact loop nb k (by omega) (by omega) (by omega) _ _ (w.to (by rw [px_sh_0])) ls hl

set_option maxHeartbeats 4000000 in
set_option maxRecDepth 100000 in
/-- finish -/
theorem px_c_finish (l : Launch) (D : va_G) (a0 af ab : Nat) (o ar : Nat → Nat) (cI cO : ClassId) (fd : Nat → Int32) (nf : Nat) (sg : Nat → Nat) (nb : Nat) (lw : Nat) (aw : Int32) (tm : Nat) (G : Nat → px_G) (B : Nat → Nat → Int32) (sz : Nat) (k : Nat) (hk : k < nb) (hnb : nb ≤ 4) (hsg : ∀ q, q < 4 → sg q < 5) (hlw : lw < 5) : pw_Mv l yX1_finish cX1_finish 3 ({ frames := 1, cells := 0, slots := 0, locals := 60 }) D (px_T cI cO) [.ref a0, .int (nI k)] (px_W a0 af ab o ar cI cO fd nf sg nb lw aw tm G B) sz (σ := Unit) (fun _ => True) (fun _ => px_W a0 af ab o ar cI cO fd nf (va_up (px_rot sg k nb) (nb - 1) lw) (nb - 1) (px_rot sg k nb (nb - 1)) 1 tm G B) (fun _ => px_T cI cO) 0 0 := by
  refine pw_openV (by decide) (Nat.le_of_ble_eq_true rfl) ?_
  intro p e s m below meth c ls S hr hlk hnm hl hsz w
  obtain ⟨hx, hb, hml, hown, hts⟩ := id S
  have hl : lv_has ls 3 [(0, .ref a0), (1, .int (nI k))] := hl
  generalize va_A (px_W a0 af ab o ar cI cO fd nf sg nb lw aw tm G B) sz = A at w ⊢
  refine lv_aload_n hx hb dX1_finish_0 rfl (lv_at hl 0 rfl) ?_
  refine lv_iload_n hx hb dX1_finish_1 rfl (lv_at hl 1 rfl) ?_
  refine pw_gov0 w.all (va_runV (C := RP) (As := [.int (nI k)]) (rest := []) S (px_c_forget l D a0 af ab o ar cI cO fd nf sg nb lw aw tm G B _ k hk hnb hsg) (pw_cw (n := 1) S eP_115 iP_forget sP_forget iniP kP_forget rfl rfl (by decide +kernel) ⟨by decide, by decide⟩) ⟨pw_blind, va_recv w.1 w.2.1 (ci := cP) (q0 := 0) rfl rfl, pw_pre w.all w.1⟩ rfl rfl hl.1 rfl (lv_room (Nat.le_of_ble_eq_true rfl)) dX1_finish_2 ⟨Nat.zero_le _, Nat.zero_le _⟩) (fun  _ H locs _ _ w => ?_)
  have w := w.one
  have w : pw_S D (px_T cI cO) A (px_W a0 af ab o ar cI cO fd nf (px_rot sg k nb) (nb - 1) lw aw tm G B) s _ _ := w
  have hs1 := px_rot_lt hsg hk hnb
  refine lv_aload_n hx hb dX1_finish_5 rfl (lv_at hl 0 rfl) ?_
  refine pw_get S w px_FP 0 rfl 4 (by decide) eP_20 (v := .ref (o lw)) rfl dX1_finish_6 ?_
  refine lv_astore_n (lv' := [(2, .ref (o lw)), (0, .ref a0), (1, .int (nI k))]) hx hb dX1_finish_9 rfl hl (by decide) rfl (fun ls hl => ?_)
  refine lv_aload_n hx hb dX1_finish_10 rfl (lv_at hl 1 rfl) ?_
  refine lv_aload_n hx hb dX1_finish_11 rfl (lv_at hl 1 rfl) ?_
  refine pw_get S w px_FP 0 rfl 2 (by decide) eP_15 (v := .ref ab) rfl dX1_finish_12 ?_
  refine lv_aload_n hx hb dX1_finish_15 rfl (lv_at hl 1 rfl) ?_
  refine pw_get S w px_FP 0 rfl 3 (by decide) eP_108 (v := .int (nI (nb - 1))) rfl dX1_finish_16 ?_
  refine pw_aald S w 2 1 (v := o ((px_rot sg k nb) (nb - 1))) rfl rfl (j := nb - 1) (by omega) (by decide) (px_bf_at (by omega)) dX1_finish_19 ?_
  refine pw_put S w px_FP 0 (fs := [.ref af, .int (nI nf), .ref ab, .int (nI (nb - 1)), .ref (o lw), .int aw, .int (nI tm)]) rfl 4 (by decide) eP_20 rfl (v := .ref (o ((px_rot sg k nb) (nb - 1)))) rfl rfl (Nat.le_of_ble_eq_true rfl) dX1_finish_20 (fun H locs w => ?_)
  have w : pw_S D (px_T cI cO) A (px_W a0 af ab o ar cI cO fd nf (px_rot sg k nb) (nb - 1) (px_rot sg k nb (nb - 1)) aw tm G B) s _ _ := w
  refine lv_aload_n hx hb dX1_finish_23 rfl (lv_at hl 1 rfl) ?_
  refine pw_get S w px_FP 0 rfl 2 (by decide) eP_15 (v := .ref ab) rfl dX1_finish_24 ?_
  refine lv_aload_n hx hb dX1_finish_27 rfl (lv_at hl 1 rfl) ?_
  refine pw_get S w px_FP 0 rfl 3 (by decide) eP_108 (v := .int (nI (nb - 1))) rfl dX1_finish_28 ?_
  refine lv_aload_n hx hb dX1_finish_31 rfl (lv_at hl 0 rfl) ?_
  refine pw_aast S w 2 1 (3 + 2 * lw) cD (r := cDr) rfl rfl (px_ato hlw) rfl (j := nb - 1) (by omega) (by decide) dX1_finish_32 (fun H locs w => ?_)
  have w : pw_S D (px_T cI cO) A (px_W a0 af ab o ar cI cO fd nf (va_up (px_rot sg k nb) (nb - 1) lw) (nb - 1) (px_rot sg k nb (nb - 1)) aw tm G B) s _ _ := w.to (px_sets (by omega) _)
  refine lv_aload_n hx hb dX1_finish_33 rfl (lv_at hl 1 rfl) ?_
  refine lv_iconst (v := 1) hx hb dX1_finish_34 (by decide) ?_
  refine pw_put S w px_FP 0 (fs := [.ref af, .int (nI nf), .ref ab, .int (nI (nb - 1)), .ref (o (px_rot sg k nb (nb - 1))), .int aw, .int (nI tm)]) rfl 5 (by decide) eP_81 rfl (v := .int 1) rfl rfl (Nat.le_of_ble_eq_true rfl) dX1_finish_35 (fun H locs w => ?_)
  have w : pw_S D (px_T cI cO) A (px_W a0 af ab o ar cI cO fd nf (va_up (px_rot sg k nb) (nb - 1) lw) (nb - 1) (px_rot sg k nb (nb - 1)) 1 tm G B) s _ _ := w
  exact pw_retv S hr hlk () w trivial (by decide) (by decide) dX1_finish_38

set_option maxHeartbeats 4000000 in
set_option maxRecDepth 100000 in
/-- giveUpOverdue -/
theorem px_c_giveUp (l : Launch) (D : va_G) (a0 af ab : Nat) (o ar : Nat → Nat) (cI cO : ClassId) (fd : Nat → Int32) (nf : Nat) (sg : Nat → Nat) (nb : Nat) (lw : Nat) (aw : Int32) (tm : Nat) (G : Nat → px_G) (B : Nat → Nat → Int32) (sz : Nat) (hnb : nb ≤ 4) (hsg : ∀ q, q < 4 → sg q < 5) : pw_Mi l yX1_giveUpOverdue cX1_giveUpOverdue 2 .int ({ frames := 1, cells := 0, slots := 0, locals := 60 }) D (px_T cI cO) [.ref a0] (px_W a0 af ab o ar cI cO fd nf sg nb lw aw tm G B) sz (σ := Unit) (fun r _ => r = nI (nb - (px_gv tm G 4 sg nb).2)) (fun _ => px_W a0 af ab o ar cI cO fd nf ((px_gv tm G 4 sg nb).1) ((px_gv tm G 4 sg nb).2) lw aw tm G B) 0 0 := by
  refine pw_openI (by decide) (Nat.le_of_ble_eq_true rfl) ?_
  intro p e s m below meth c ls S hr hlk hl hsz w
  obtain ⟨hx, hb, hml, hown, hts⟩ := id S
  have hl : lv_has ls 2 [(0, .ref a0)] := hl
  generalize va_A (px_W a0 af ab o ar cI cO fd nf sg nb lw aw tm G B) sz = A at w ⊢
  refine lv_iconst (v := 0) hx hb dX1_giveUpOverdue_0 (by decide) ?_
  refine lv_istore_n (lv' := [(1, .int 0), (0, .ref a0)]) hx hb dX1_giveUpOverdue_1 rfl hl (by decide) rfl (fun ls hl => ?_)
  have loop : ∀ (n : Nat) (i n1 : Nat) (s1 : Nat → Nat), i ≤ 4 → 4 < i + n → n1 ≤ 4 → (∀ q, q < 4 → s1 q < 5) → n1 + i = nb → px_gv tm G 4 sg nb = px_gv tm G (4 - i) s1 n1 → ∀ (H : Heap) (locs : List Loc), pw_S D (px_T cI cO) A (px_W a0 af ab o ar cI cO fd nf s1 n1 lw aw tm G B) s H locs → ∀ (ls : Array Slot), lv_has ls 2 [(1, .int (nI i)), (0, .ref a0)] → W p l e ({ frames := 1, cells := 0, slots := 0, locals := 60 }) s m #[Value.ref a0] below meth c H locs 0 0 (MQ below (va_Qi (S := Unit) (fun r _ => r = nI (nb - (px_gv tm G 4 sg nb).2)) (pw_B D (fun _ => px_W a0 af ab o ar cI cO fd nf ((px_gv tm G 4 sg nb).1) ((px_gv tm G 4 sg nb).2) lw aw tm G B) (fun _ => px_T cI cO) A) A) #[Value.ref a0] s 0 0 A) (F0 m 2 ls []) := by
    intro n
    induction n with
    | zero => intros; omega
    | succ n ih =>
      intro i n1 s1 hi hn hn1 hs1 hni hgv H locs w ls hl
      refine lv_iload_n hx hb dX1_giveUpOverdue_2 rfl (lv_at hl 0 rfl) ?_
      refine lv_iconst (v := 4) hx hb dX1_giveUpOverdue_3 (by decide) ?_
      refine lv_icmp_ge (tgt := 45) hx hb dX1_giveUpOverdue_4 (by decide) (fun h1 => ?_) (fun h1 => ?_)
      · have e9 : px_gv tm G 4 sg nb = (s1, n1) := hgv.trans (by have := (nI_leI (a := 4) (b := i) (by decide) (by omega)).mp h1; rw [show 4 - i = 0 by omega]; rfl)
        refine lv_iload_n hx hb dX1_giveUpOverdue_45 rfl (lv_at hl 0 rfl) ?_
        exact pw_reti S hr hlk () (w.to (by rw [e9])) (by rw [e9]; show nI i = nI (nb - n1); congr 1; omega) (by decide) (by decide) dX1_giveUpOverdue_46
      · have hlt : i < 4 := Nat.lt_of_not_le (fun q => h1 ((nI_leI (a := 4) (b := i) (by decide) (by omega)).mpr q))
        refine lv_aload_n hx hb dX1_giveUpOverdue_7 rfl (lv_at hl 1 rfl) ?_
        refine pw_get S w px_FP 0 rfl 3 (by decide) eP_108 (v := .int (nI n1)) rfl dX1_giveUpOverdue_8 ?_
        refine lv_if_le (tgt := 45) hx hb dX1_giveUpOverdue_11 (by decide) (fun h2 => ?_) (fun h2 => ?_)
        · have e9 : px_gv tm G 4 sg nb = (s1, n1) := hgv.trans (by rw [show 4 - i = (4 - i - 1) + 1 by omega]; exact if_neg (fun q => h2 |> fun h => absurd ((nI_leI (a := n1) (b := 0) (by omega) (by decide)).mp h) (by omega)))
          refine lv_iload_n hx hb dX1_giveUpOverdue_45 rfl (lv_at hl 0 rfl) ?_
          exact pw_reti S hr hlk () (w.to (by rw [e9])) (by rw [e9]; show nI i = nI (nb - n1); congr 1; omega) (by decide) (by decide) dX1_giveUpOverdue_46
        · have hpos : 0 < n1 := Nat.pos_of_ne_zero (fun q => h2 (by rw [q]; exact nI_le (Nat.le_refl 0) (by decide)))
          have hj0 : s1 0 < 5 := hs1 0 (by omega)
          refine lv_aload_n hx hb dX1_giveUpOverdue_14 rfl (lv_at hl 1 rfl) ?_
          refine pw_get S w px_FP 0 rfl 6 (by decide) eP_70 (v := .int (nI tm)) rfl dX1_giveUpOverdue_15 ?_
          refine lv_aload_n hx hb dX1_giveUpOverdue_18 rfl (lv_at hl 1 rfl) ?_
          refine pw_get S w px_FP 0 rfl 2 (by decide) eP_15 (v := .ref ab) rfl dX1_giveUpOverdue_19 ?_
          refine lv_iconst (v := 0) hx hb dX1_giveUpOverdue_22 (by decide) ?_
          refine pw_top (y := nI 0) rfl ?_
          refine pw_aald S w 2 1 (v := o (s1 0)) rfl rfl (j := 0) (by omega) (by decide) (px_bf_at (by omega)) dX1_giveUpOverdue_23 ?_
          refine pw_getN S w px_FD (3 + 2 * (s1 0)) (px_ato hj0) 6 (by decide) eP_122 (v := .int (G (s1 0)).2.2.2.2.2) rfl dX1_giveUpOverdue_24 ?_
          refine lv_isub hx hb dX1_giveUpOverdue_27 ?_
          refine lv_sipush (v := 300) hx hb dX1_giveUpOverdue_28 (by decide) ?_
          refine lv_icmp_lt (tgt := 45) hx hb dX1_giveUpOverdue_31 (by decide) (fun h3 => ?_) (fun h3 => ?_)
          · have e9 : px_gv tm G 4 sg nb = (s1, n1) := hgv.trans (by rw [show 4 - i = (4 - i - 1) + 1 by omega]; exact if_neg (fun q => q.2 h3))
            refine lv_iload_n hx hb dX1_giveUpOverdue_45 rfl (lv_at hl 0 rfl) ?_
            exact pw_reti S hr hlk () (w.to (by rw [e9])) (by rw [e9]; show nI i = nI (nb - n1); congr 1; omega) (by decide) (by decide) dX1_giveUpOverdue_46
          · refine lv_aload_n hx hb dX1_giveUpOverdue_34 rfl (lv_at hl 1 rfl) ?_
            refine lv_iconst (v := 0) hx hb dX1_giveUpOverdue_35 (by decide) ?_
            refine pw_top (y := nI 0) rfl ?_
            refine pw_gov0 w.all (va_runV (C := RP) (As := [.int (nI 0)]) (rest := []) S (px_c_forget l D a0 af ab o ar cI cO fd nf s1 n1 lw aw tm G B _ 0 hpos hn1 hs1) (pw_cw (n := 1) S eP_115 iP_forget sP_forget iniP kP_forget rfl rfl (by decide +kernel) ⟨by decide, by decide⟩) ⟨pw_blind, va_recv w.1 w.2.1 (ci := cP) (q0 := 0) rfl rfl, pw_pre w.all w.1⟩ rfl rfl hl.1 rfl (lv_room (Nat.le_of_ble_eq_true rfl)) dX1_giveUpOverdue_36 ⟨Nat.zero_le _, Nat.zero_le _⟩) (fun  _ H locs _ _ w => ?_)
            have w := w.one
            have w : pw_S D (px_T cI cO) A (px_W a0 af ab o ar cI cO fd nf (px_rot s1 0 n1) (n1 - 1) lw aw tm G B) s _ _ := w
            refine lv_iinc (v := nI (i + 1)) (lv' := [(1, .int (nI (i + 1))), (0, .ref a0)]) hx hb dX1_giveUpOverdue_39 hl (k := 0) rfl (nI_1 i) (by decide) rfl (fun ls hl => ?_)
            refine lv_goto (tgt := 2) hx hb dX1_giveUpOverdue_42 (by decide) ?_
            exact ih (i + 1) (n1 - 1) (px_rot s1 0 n1) (by omega) (by omega) (by omega) (px_rot_lt hs1 hpos hn1) (by omega) (hgv.trans (by rw [show 4 - i = (4 - (i + 1)) + 1 by omega]; exact if_pos ⟨hpos, h3⟩)) H locs w ls hl
  exact loop 5 0 nb sg (by omega) (by omega) hnb hsg (by omega) rfl _ _ w ls hl

set_option maxHeartbeats 4000000 in
set_option maxRecDepth 100000 in
/-- beginOnBench -/
theorem px_c_beginOnBench (l : Launch) (D : va_G) (a0 af ab : Nat) (o ar : Nat → Nat) (cI cO : ClassId) (fd : Nat → Int32) (nf : Nat) (sg : Nat → Nat) (nb : Nat) (lw : Nat) (aw : Int32) (tm : Nat) (G : Nat → px_G) (B : Nat → Nat → Int32) (sz : Nat) (hnb : nb ≤ 4) (hsg : ∀ q, q < 4 → sg q < 5) (a b d3 wh : Int32) : pw_Mi l yX1_beginOnBench cX1_beginOnBench 6 .int ({ frames := 2, cells := 0, slots := 0, locals := 120 }) D (px_T cI cO) [.ref a0, .int a, .int b, .int d3, .int wh] (px_W a0 af ab o ar cI cO fd nf sg nb lw aw tm G B) sz (σ := Unit) (fun r _ => r = nI (px_mk sg nb).2) (fun _ => px_W a0 af ab o ar cI cO fd nf ((px_mk sg nb).1) ((px_mk sg nb).2 + 1) lw aw tm (va_up G (((px_mk sg nb).1) ((px_mk sg nb).2)) (a, b, d3, wh, wh, nI tm)) (va_up B (((px_mk sg nb).1) ((px_mk sg nb).2)) (px_fl (B (((px_mk sg nb).1) ((px_mk sg nb).2))) (-1) 1480))) 0 0 := by
  refine pw_openI (by decide) (Nat.le_of_ble_eq_true rfl) ?_
  intro p e s m below meth c ls S hr hlk hl hsz w
  obtain ⟨hx, hb, hml, hown, hts⟩ := id S
  have hl : lv_has ls 6 [(0, .ref a0), (1, .int a), (2, .int b), (3, .int d3), (4, .int wh)] := hl
  generalize va_A (px_W a0 af ab o ar cI cO fd nf sg nb lw aw tm G B) sz = A at w ⊢
  refine lv_aload_n hx hb dX1_beginOnBench_0 rfl (lv_at hl 0 rfl) ?_
  refine pw_get S w px_FP 0 rfl 3 (by decide) eP_108 (v := .int (nI nb)) rfl dX1_beginOnBench_1 ?_
  refine lv_iconst (v := 4) hx hb dX1_beginOnBench_4 (by decide) ?_
  refine lv_icmp_ne (tgt := 13) hx hb dX1_beginOnBench_5 (by decide) (fun h1 => ?_) (fun h1 => ?_)
  · have hn4 : nb ≠ 4 := fun q => h1 (by rw [q]; rfl)
    have e9 : px_mk sg nb = (sg, nb) := if_neg hn4
    have hj : sg nb < 5 := hsg nb (by omega)
    refine lv_aload_n hx hb dX1_beginOnBench_13 rfl (lv_at hl 0 rfl) ?_
    refine pw_get S w px_FP 0 rfl 3 (by decide) eP_108 (v := .int (nI nb)) rfl dX1_beginOnBench_14 ?_
    refine lv_istore (lv' := [(5, .int (nI nb)), (0, .ref a0), (1, .int a), (2, .int b), (3, .int d3), (4, .int wh)]) hx hb dX1_beginOnBench_17 hl (by decide) rfl (fun ls hl => ?_)
    refine lv_aload_n hx hb dX1_beginOnBench_19 rfl (lv_at hl 1 rfl) ?_
    refine pw_get S w px_FP 0 rfl 2 (by decide) eP_15 (v := .ref ab) rfl dX1_beginOnBench_20 ?_
    refine lv_iload hx hb dX1_beginOnBench_23 (lv_at hl 0 rfl) ?_
    refine pw_aald S w 2 1 (v := o (sg nb)) rfl rfl (j := nb) (by omega) (by decide) (px_bf_at (by omega)) dX1_beginOnBench_25 ?_
    refine lv_iload_n hx hb dX1_beginOnBench_26 rfl (lv_at hl 2 rfl) ?_
    refine lv_iload_n hx hb dX1_beginOnBench_27 rfl (lv_at hl 3 rfl) ?_
    refine lv_iload_n hx hb dX1_beginOnBench_28 rfl (lv_at hl 4 rfl) ?_
    refine lv_iload hx hb dX1_beginOnBench_29 (lv_at hl 5 rfl) ?_
    refine lv_aload_n hx hb dX1_beginOnBench_31 rfl (lv_at hl 1 rfl) ?_
    refine pw_get S w px_FP 0 rfl 6 (by decide) eP_70 (v := .int (nI tm)) rfl dX1_beginOnBench_32 ?_
    have w : pw_S D (px_T cI cO) A (px_W a0 af ab o ar cI cO fd nf sg nb lw aw tm (va_up G (sg nb) (G (sg nb))) (va_up B (sg nb) (B (sg nb)))) s _ _ := w.to (by rw [px_id, px_id])
    refine pw_gov0 w.all (va_runVN (C := RD) (As := [.int a, .int b, .int d3, .int wh, .int (nI tm)]) (rest := []) S (px_c_begin l D a0 af ab o ar cI cO fd nf sg nb lw aw tm G B _ (sg nb) hj (G (sg nb)) (B (sg nb)) a b d3 wh (nI tm)) (⟨pw_cn (n := 5) S w.2.2.2.2.2 eP_118 iniD kD_begin rfl rfl (by decide +kernel) ⟨by decide, by decide⟩, S.2.2.2.2 _ iD_begin, S.2.2.2.2 _ sD_begin⟩) ⟨pw_blind, va_recv w.1 w.2.1 (ci := cD) (q0 := (3 + 2 * (sg nb))) rfl (px_ato' hj), pw_pre w.all w.1⟩ rfl rfl hl.1 rfl (lv_room (Nat.le_of_ble_eq_true rfl)) dX1_beginOnBench_35 ⟨Nat.zero_le _, Nat.zero_le _⟩) (fun  _ H locs _ _ w => ?_)
    have w := w.one
    have w : pw_S D (px_T cI cO) A (px_W a0 af ab o ar cI cO fd nf sg nb lw aw tm (va_up G (sg nb) (a, b, d3, wh, wh, nI tm)) (va_up B (sg nb) (px_fl (B (sg nb)) (-1) 1480))) s _ _ := w
    refine lv_aload_n hx hb dX1_beginOnBench_38 rfl (lv_at hl 1 rfl) ?_
    refine lv_dup hx hb dX1_beginOnBench_39 rfl ?_
    refine pw_get S w px_FP 0 rfl 3 (by decide) eP_108 (v := .int (nI nb)) rfl dX1_beginOnBench_40 ?_
    refine lv_iconst (v := 1) hx hb dX1_beginOnBench_43 (by decide) ?_
    refine lv_iadd hx hb dX1_beginOnBench_44 ?_
    refine pw_top (y := nI (nb + 1)) (nI_1 _) ?_
    refine pw_put S w px_FP 0 (fs := [.ref af, .int (nI nf), .ref ab, .int (nI nb), .ref (o lw), .int aw, .int (nI tm)]) rfl 3 (by decide) eP_108 rfl (v := .int (nI (nb + 1))) rfl rfl (Nat.le_of_ble_eq_true rfl) dX1_beginOnBench_45 (fun H locs w => ?_)
    have w : pw_S D (px_T cI cO) A (px_W a0 af ab o ar cI cO fd nf sg (nb + 1) lw aw tm (va_up G (sg nb) (a, b, d3, wh, wh, nI tm)) (va_up B (sg nb) (px_fl (B (sg nb)) (-1) 1480))) s _ _ := w
    refine lv_iload hx hb dX1_beginOnBench_48 (lv_at hl 0 rfl) ?_
    exact pw_reti S hr hlk () (w.to (by rw [e9])) (by rw [e9]) (by decide) (by decide) dX1_beginOnBench_50
  · have hn4 : nb = 4 := (nI_eq (a := nb) (b := 4) (by omega) (by decide)).mp h1
    have e9 : px_mk sg nb = (px_rot sg 0 nb, nb - 1) := if_pos hn4
    refine lv_aload_n hx hb dX1_beginOnBench_8 rfl (lv_at hl 0 rfl) ?_
    refine lv_iconst (v := 0) hx hb dX1_beginOnBench_9 (by decide) ?_
    refine pw_top (y := nI 0) rfl ?_
    refine pw_gov0 w.all (va_runV (C := RP) (As := [.int (nI 0)]) (rest := []) S (px_c_forget l D a0 af ab o ar cI cO fd nf sg nb lw aw tm G B _ 0 (by omega) hnb hsg) (pw_cw (n := 1) S eP_115 iP_forget sP_forget iniP kP_forget rfl rfl (by decide +kernel) ⟨by decide, by decide⟩) ⟨pw_blind, va_recv w.1 w.2.1 (ci := cP) (q0 := 0) rfl rfl, pw_pre w.all w.1⟩ rfl rfl hl.1 rfl (lv_room (Nat.le_of_ble_eq_true rfl)) dX1_beginOnBench_10 ⟨Nat.zero_le _, Nat.zero_le _⟩) (fun  _ H locs _ _ w => ?_)
    have w := w.one
    have w : pw_S D (px_T cI cO) A (px_W a0 af ab o ar cI cO fd nf (px_rot sg 0 nb) (nb - 1) lw aw tm G B) s _ _ := w
    have hs1 := px_rot_lt hsg (show 0 < nb by omega) hnb
    have hj : (px_rot sg 0 nb) (nb - 1) < 5 := hs1 (nb - 1) (by omega)
    refine lv_aload_n hx hb dX1_beginOnBench_13 rfl (lv_at hl 0 rfl) ?_
    refine pw_get S w px_FP 0 rfl 3 (by decide) eP_108 (v := .int (nI (nb - 1))) rfl dX1_beginOnBench_14 ?_
    refine lv_istore (lv' := [(5, .int (nI (nb - 1))), (0, .ref a0), (1, .int a), (2, .int b), (3, .int d3), (4, .int wh)]) hx hb dX1_beginOnBench_17 hl (by decide) rfl (fun ls hl => ?_)
    refine lv_aload_n hx hb dX1_beginOnBench_19 rfl (lv_at hl 1 rfl) ?_
    refine pw_get S w px_FP 0 rfl 2 (by decide) eP_15 (v := .ref ab) rfl dX1_beginOnBench_20 ?_
    refine lv_iload hx hb dX1_beginOnBench_23 (lv_at hl 0 rfl) ?_
    refine pw_aald S w 2 1 (v := o ((px_rot sg 0 nb) (nb - 1))) rfl rfl (j := nb - 1) (by omega) (by decide) (px_bf_at (by omega)) dX1_beginOnBench_25 ?_
    refine lv_iload_n hx hb dX1_beginOnBench_26 rfl (lv_at hl 2 rfl) ?_
    refine lv_iload_n hx hb dX1_beginOnBench_27 rfl (lv_at hl 3 rfl) ?_
    refine lv_iload_n hx hb dX1_beginOnBench_28 rfl (lv_at hl 4 rfl) ?_
    refine lv_iload hx hb dX1_beginOnBench_29 (lv_at hl 5 rfl) ?_
    refine lv_aload_n hx hb dX1_beginOnBench_31 rfl (lv_at hl 1 rfl) ?_
    refine pw_get S w px_FP 0 rfl 6 (by decide) eP_70 (v := .int (nI tm)) rfl dX1_beginOnBench_32 ?_
    have w : pw_S D (px_T cI cO) A (px_W a0 af ab o ar cI cO fd nf (px_rot sg 0 nb) (nb - 1) lw aw tm (va_up G ((px_rot sg 0 nb) (nb - 1)) (G ((px_rot sg 0 nb) (nb - 1)))) (va_up B ((px_rot sg 0 nb) (nb - 1)) (B ((px_rot sg 0 nb) (nb - 1))))) s _ _ := w.to (by rw [px_id, px_id])
    refine pw_gov0 w.all (va_runVN (C := RD) (As := [.int a, .int b, .int d3, .int wh, .int (nI tm)]) (rest := []) S (px_c_begin l D a0 af ab o ar cI cO fd nf (px_rot sg 0 nb) (nb - 1) lw aw tm G B _ ((px_rot sg 0 nb) (nb - 1)) hj (G ((px_rot sg 0 nb) (nb - 1))) (B ((px_rot sg 0 nb) (nb - 1))) a b d3 wh (nI tm)) (⟨pw_cn (n := 5) S w.2.2.2.2.2 eP_118 iniD kD_begin rfl rfl (by decide +kernel) ⟨by decide, by decide⟩, S.2.2.2.2 _ iD_begin, S.2.2.2.2 _ sD_begin⟩) ⟨pw_blind, va_recv w.1 w.2.1 (ci := cD) (q0 := (3 + 2 * ((px_rot sg 0 nb) (nb - 1)))) rfl (px_ato' hj), pw_pre w.all w.1⟩ rfl rfl hl.1 rfl (lv_room (Nat.le_of_ble_eq_true rfl)) dX1_beginOnBench_35 ⟨Nat.zero_le _, Nat.zero_le _⟩) (fun  _ H locs _ _ w => ?_)
    have w := w.one
    have w : pw_S D (px_T cI cO) A (px_W a0 af ab o ar cI cO fd nf (px_rot sg 0 nb) (nb - 1) lw aw tm (va_up G ((px_rot sg 0 nb) (nb - 1)) (a, b, d3, wh, wh, nI tm)) (va_up B ((px_rot sg 0 nb) (nb - 1)) (px_fl (B ((px_rot sg 0 nb) (nb - 1))) (-1) 1480))) s _ _ := w
    refine lv_aload_n hx hb dX1_beginOnBench_38 rfl (lv_at hl 1 rfl) ?_
    refine lv_dup hx hb dX1_beginOnBench_39 rfl ?_
    refine pw_get S w px_FP 0 rfl 3 (by decide) eP_108 (v := .int (nI (nb - 1))) rfl dX1_beginOnBench_40 ?_
    refine lv_iconst (v := 1) hx hb dX1_beginOnBench_43 (by decide) ?_
    refine lv_iadd hx hb dX1_beginOnBench_44 ?_
    refine pw_top (y := nI (nb - 1 + 1)) (nI_1 _) ?_
    refine pw_put S w px_FP 0 (fs := [.ref af, .int (nI nf), .ref ab, .int (nI (nb - 1)), .ref (o lw), .int aw, .int (nI tm)]) rfl 3 (by decide) eP_108 rfl (v := .int (nI (nb - 1 + 1))) rfl rfl (Nat.le_of_ble_eq_true rfl) dX1_beginOnBench_45 (fun H locs w => ?_)
    have w : pw_S D (px_T cI cO) A (px_W a0 af ab o ar cI cO fd nf (px_rot sg 0 nb) (nb - 1 + 1) lw aw tm (va_up G ((px_rot sg 0 nb) (nb - 1)) (a, b, d3, wh, wh, nI tm)) (va_up B ((px_rot sg 0 nb) (nb - 1)) (px_fl (B ((px_rot sg 0 nb) (nb - 1))) (-1) 1480))) s _ _ := w
    refine lv_iload hx hb dX1_beginOnBench_48 (lv_at hl 0 rfl) ?_
    exact pw_reti S hr hlk () (w.to (by rw [e9])) (by rw [e9]) (by decide) (by decide) dX1_beginOnBench_50
end
section
set_option maxHeartbeats 4000000 in
set_option maxRecDepth 100000 in
/-- missing -/
theorem px_c_missing (l : Launch) (D : va_G) (a0 af ab : Nat) (o ar : Nat → Nat) (cI cO : ClassId) (fd : Nat → Int32) (nf : Nat) (sg : Nat → Nat) (nb : Nat) (lw : Nat) (aw : Int32) (tm : Nat) (G : Nat → px_G) (B : Nat → Nat → Int32) (sz : Nat) (hnb : nb ≤ 4) (hsg : ∀ q, q < 4 → sg q < 5) (a b d3 : Int32) : pw_Mi l yX1_missing cX1_missing 5 .int ({ frames := 2, cells := 0, slots := 0, locals := 120 }) D (px_T cI cO) [.ref a0, .int a, .int b, .int d3] (px_W a0 af ab o ar cI cO fd nf sg nb lw aw tm G B) sz (σ := Unit) (fun r _ => ∃ x, px_fnd sg G nb a b d3 x ∧ r = px_ms sg G x) (fun _ => px_W a0 af ab o ar cI cO fd nf sg nb lw aw tm G B) 0 0 := by
  refine pw_openI (by decide) (Nat.le_of_ble_eq_true rfl) ?_
  intro p e s m below meth c ls S hr hlk hl hsz w
  obtain ⟨hx, hb, hml, hown, hts⟩ := id S
  have hl : lv_has ls 5 [(0, .ref a0), (1, .int a), (2, .int b), (3, .int d3)] := hl
  generalize va_A (px_W a0 af ab o ar cI cO fd nf sg nb lw aw tm G B) sz = A at w ⊢
  refine lv_aload_n hx hb dX1_missing_0 rfl (lv_at hl 0 rfl) ?_
  refine lv_iload_n hx hb dX1_missing_1 rfl (lv_at hl 1 rfl) ?_
  refine lv_iload_n hx hb dX1_missing_2 rfl (lv_at hl 2 rfl) ?_
  refine lv_iload_n hx hb dX1_missing_3 rfl (lv_at hl 3 rfl) ?_
  refine pw_goi0 w.all (va_runV (C := RP) (As := [.int a, .int b, .int d3]) (rest := []) S (px_c_placeOf l D a0 af ab o ar cI cO fd nf sg nb lw aw tm G B _ hnb hsg a b d3) (pw_cw (n := 3) S eP_44 iP_placeOf sP_placeOf iniP kP_placeOf rfl rfl (by decide +kernel) ⟨by decide, by decide⟩) ⟨pw_blind, va_recv w.1 w.2.1 (ci := cP) (q0 := 0) rfl rfl, pw_pre w.all w.1⟩ rfl rfl hl.1 rfl (lv_room (Nat.le_of_ble_eq_true rfl)) dX1_missing_4 ⟨Nat.zero_le _, Nat.zero_le _⟩) (fun r _ H locs hp w => ?_)
  have w := w.one
  have w : pw_S D (px_T cI cO) A (px_W a0 af ab o ar cI cO fd nf sg nb lw aw tm G B) s _ _ := w
  obtain ⟨x, hfx, rfl⟩ := hp
  refine lv_istore (lv' := [(4, .int (px_ix x)), (0, .ref a0), (1, .int a), (2, .int b), (3, .int d3)]) hx hb dX1_missing_7 hl (by decide) rfl (fun ls hl => ?_)
  refine lv_iload hx hb dX1_missing_9 (lv_at hl 0 rfl) ?_
  refine lv_iconst (v := (-1)) hx hb dX1_missing_11 (by decide) ?_
  refine lv_icmp_ne (tgt := 19) hx hb dX1_missing_12 (by decide) (fun h1 => ?_) (fun h1 => ?_)
  · obtain ⟨k, rfl⟩ : ∃ k, x = some k := by cases x with | none => exact absurd rfl h1 | some k => exact ⟨k, rfl⟩
    have hk : k < 4 := by have := hfx.1; omega
    have hj : sg k < 5 := hsg k hk
    have hl : lv_has ls 5 [(4, .int (nI k)), (0, .ref a0), (1, .int a), (2, .int b), (3, .int d3)] := hl
    refine lv_aload_n hx hb dX1_missing_19 rfl (lv_at hl 1 rfl) ?_
    refine pw_get S w px_FP 0 rfl 2 (by decide) eP_15 (v := .ref ab) rfl dX1_missing_20 ?_
    refine lv_iload hx hb dX1_missing_23 (lv_at hl 0 rfl) ?_
    refine pw_aald S w 2 1 (v := o (sg k)) rfl rfl (j := k) hk (by decide) (px_bf_at hk) dX1_missing_25 ?_
    refine pw_getN S w px_FD (3 + 2 * (sg k)) (px_ato hj) 5 (by decide) eP_59 (v := .int (G (sg k)).2.2.2.2.1) rfl dX1_missing_26 ?_
    exact pw_reti S hr hlk () w ⟨some k, hfx, rfl⟩ (by decide) (by decide) dX1_missing_29
  · have hx0 : x = none := px_ix_none (fun k hk => by subst hk; exact Nat.lt_of_lt_of_le hfx.1 (by omega)) h1
    refine lv_iconst (v := (-1)) hx hb dX1_missing_15 (by decide) ?_
    refine lv_goto (tgt := 29) hx hb dX1_missing_16 (by decide) ?_
    exact pw_reti S hr hlk () w ⟨x, hfx, by rw [hx0]; rfl⟩ (by decide) (by decide) dX1_missing_29

set_option maxHeartbeats 4000000 in
set_option maxRecDepth 100000 in
/-- has -/
theorem px_c_has (l : Launch) (D : va_G) (a0 af ab : Nat) (o ar : Nat → Nat) (cI cO : ClassId) (fd : Nat → Int32) (nf : Nat) (sg : Nat → Nat) (nb : Nat) (lw : Nat) (aw : Int32) (tm : Nat) (G : Nat → px_G) (B : Nat → Nat → Int32) (sz : Nat) (hnb : nb ≤ 4) (hsg : ∀ q, q < 4 → sg q < 5) (hzs : ∀ q, q < nb → ∃ zs, (G (sg q)).2.2.2.1 = nI zs ∧ zs ≤ 1480) (a b d3 i : Int32) : pw_Mi l yX1_has cX1_has 6 .boolean ({ frames := 2, cells := 0, slots := 0, locals := 120 }) D (px_T cI cO) [.ref a0, .int a, .int b, .int d3, .int i] (px_W a0 af ab o ar cI cO fd nf sg nb lw aw tm G B) sz (σ := Unit) (fun r _ => ∃ x, px_fnd sg G nb a b d3 x ∧ ((r = 1 ∧ px_hs sg G B i x) ∨ (r = 0 ∧ ¬ px_hs sg G B i x))) (fun _ => px_W a0 af ab o ar cI cO fd nf sg nb lw aw tm G B) 0 0 := by
  refine pw_openI (by decide) (Nat.le_of_ble_eq_true rfl) ?_
  intro p e s m below meth c ls S hr hlk hl hsz w
  obtain ⟨hx, hb, hml, hown, hts⟩ := id S
  have hl : lv_has ls 6 [(0, .ref a0), (1, .int a), (2, .int b), (3, .int d3), (4, .int i)] := hl
  generalize va_A (px_W a0 af ab o ar cI cO fd nf sg nb lw aw tm G B) sz = A at w ⊢
  refine lv_aload_n hx hb dX1_has_0 rfl (lv_at hl 0 rfl) ?_
  refine lv_iload_n hx hb dX1_has_1 rfl (lv_at hl 1 rfl) ?_
  refine lv_iload_n hx hb dX1_has_2 rfl (lv_at hl 2 rfl) ?_
  refine lv_iload_n hx hb dX1_has_3 rfl (lv_at hl 3 rfl) ?_
  refine pw_goi0 w.all (va_runV (C := RP) (As := [.int a, .int b, .int d3]) (rest := []) S (px_c_placeOf l D a0 af ab o ar cI cO fd nf sg nb lw aw tm G B _ hnb hsg a b d3) (pw_cw (n := 3) S eP_44 iP_placeOf sP_placeOf iniP kP_placeOf rfl rfl (by decide +kernel) ⟨by decide, by decide⟩) ⟨pw_blind, va_recv w.1 w.2.1 (ci := cP) (q0 := 0) rfl rfl, pw_pre w.all w.1⟩ rfl rfl hl.1 rfl (lv_room (Nat.le_of_ble_eq_true rfl)) dX1_has_4 ⟨Nat.zero_le _, Nat.zero_le _⟩) (fun r _ H locs hp w => ?_)
  have w := w.one
  have w : pw_S D (px_T cI cO) A (px_W a0 af ab o ar cI cO fd nf sg nb lw aw tm G B) s _ _ := w
  obtain ⟨x, hfx, rfl⟩ := hp
  refine lv_istore (lv' := [(5, .int (px_ix x)), (0, .ref a0), (1, .int a), (2, .int b), (3, .int d3), (4, .int i)]) hx hb dX1_has_7 hl (by decide) rfl (fun ls hl => ?_)
  refine lv_iload hx hb dX1_has_9 (lv_at hl 0 rfl) ?_
  refine lv_iconst (v := (-1)) hx hb dX1_has_11 (by decide) ?_
  refine lv_icmp_eq (tgt := 34) hx hb dX1_has_12 (by decide) (fun h1 => ?_) (fun h1 => ?_)
  · have hx0 : x = none := px_ix_none (fun k hk => by subst hk; exact Nat.lt_of_lt_of_le hfx.1 (by omega)) h1
    refine lv_iconst (v := 0) hx hb dX1_has_34 (by decide) ?_
    exact pw_retz S hr hlk () rfl w ⟨x, hfx, Or.inr ⟨rfl, by rw [hx0]; exact fun q => q⟩⟩ (by decide) (by decide) dX1_has_35
  · obtain ⟨k, rfl⟩ : ∃ k, x = some k := by cases x with | none => exact absurd rfl h1 | some k => exact ⟨k, rfl⟩
    have hk : k < 4 := by have := hfx.1; omega
    have hj : sg k < 5 := hsg k hk
    obtain ⟨zs, hz, hz2⟩ := hzs k hfx.1
    have hl : lv_has ls 6 [(5, .int (nI k)), (0, .ref a0), (1, .int a), (2, .int b), (3, .int d3), (4, .int i)] := hl
    refine lv_aload_n hx hb dX1_has_15 rfl (lv_at hl 1 rfl) ?_
    refine pw_get S w px_FP 0 rfl 2 (by decide) eP_15 (v := .ref ab) rfl dX1_has_16 ?_
    refine lv_iload hx hb dX1_has_19 (lv_at hl 0 rfl) ?_
    refine pw_aald S w 2 1 (v := o (sg k)) rfl rfl (j := k) hk (by decide) (px_bf_at hk) dX1_has_21 ?_
    refine lv_iload hx hb dX1_has_22 (lv_at hl 5 rfl) ?_
    refine pw_goi0 w.all (va_runVN (C := RD) (As := [.int i]) (rest := []) S (px_c_holds l D a0 af ab o ar cI cO fd nf sg nb lw aw tm G B _ (sg k) hj i zs hz hz2) (⟨pw_cn (n := 1) S w.2.2.2.2.2 eP_104 iniD kD_holds rfl rfl (by decide +kernel) ⟨by decide, by decide⟩, S.2.2.2.2 _ iD_holds, S.2.2.2.2 _ sD_holds⟩) ⟨pw_blind, va_recv w.1 w.2.1 (ci := cD) (q0 := (3 + 2 * sg k)) rfl (px_ato hj), pw_pre w.all w.1⟩ rfl rfl hl.1 rfl (lv_room (Nat.le_of_ble_eq_true rfl)) dX1_has_24 ⟨Nat.zero_le _, Nat.zero_le _⟩) (fun r _ H locs hp w => ?_)
    have w := w.one
    have w : pw_S D (px_T cI cO) A (px_W a0 af ab o ar cI cO fd nf sg nb lw aw tm G B) s _ _ := w
    refine lv_if_eq (tgt := 34) hx hb dX1_has_27 (by decide) (fun h2 => ?_) (fun h2 => ?_)
    · have ht : ¬ px_hd zs (B (sg k)) i := by rcases hp with hp | hp; exact absurd (hp.1.symm.trans h2) (by decide); exact hp.2
      refine lv_iconst (v := 0) hx hb dX1_has_34 (by decide) ?_
      exact pw_retz S hr hlk () rfl w ⟨some k, hfx, Or.inr ⟨rfl, fun ⟨z9, e9, q9⟩ => ht (by rw [px_sz (hz.symm.trans e9) hz2 q9.2]; exact q9.1)⟩⟩ (by decide) (by decide) dX1_has_35
    · have ht : px_hd zs (B (sg k)) i := by rcases hp with hp | hp; exact hp.2; exact absurd hp.1 h2
      refine lv_iconst (v := 1) hx hb dX1_has_30 (by decide) ?_
      refine lv_goto (tgt := 35) hx hb dX1_has_31 (by decide) ?_
      exact pw_retz S hr hlk () rfl w ⟨some k, hfx, Or.inl ⟨rfl, zs, hz, ht, hz2⟩⟩ (by decide) (by decide) dX1_has_35

set_option maxHeartbeats 4000000 in
set_option maxRecDepth 100000 in
/-- waiting -/
theorem px_c_waiting (l : Launch) (D : va_G) (a0 af ab : Nat) (o ar : Nat → Nat) (cI cO : ClassId) (fd : Nat → Int32) (nf : Nat) (sg : Nat → Nat) (nb : Nat) (lw : Nat) (aw : Int32) (tm : Nat) (G : Nat → px_G) (B : Nat → Nat → Int32) (sz : Nat)  : pw_Mi l yX1_waiting cX1_waiting 1 .int ({ frames := 0, cells := 0, slots := 0, locals := 0 }) D (px_T cI cO) [.ref a0] (px_W a0 af ab o ar cI cO fd nf sg nb lw aw tm G B) sz (σ := Unit) (fun r _ => r = nI nb) (fun _ => px_W a0 af ab o ar cI cO fd nf sg nb lw aw tm G B) 0 0 := by
  refine pw_openI (by decide) (Nat.le_of_ble_eq_true rfl) ?_
  intro p e s m below meth c ls S hr hlk hl hsz w
  obtain ⟨hx, hb, hml, hown, hts⟩ := id S
  have hl : lv_has ls 1 [(0, .ref a0)] := hl
  generalize va_A (px_W a0 af ab o ar cI cO fd nf sg nb lw aw tm G B) sz = A at w ⊢
  refine lv_aload_n hx hb dX1_waiting_0 rfl (lv_at hl 0 rfl) ?_
  refine pw_get S w px_FP 0 rfl 3 (by decide) eP_108 (v := .int (nI nb)) rfl dX1_waiting_1 ?_
  exact pw_reti S hr hlk () w rfl (by decide) (by decide) dX1_waiting_4

set_option maxHeartbeats 4000000 in
set_option maxRecDepth 100000 in
/-- about -/
theorem px_c_about (l : Launch) (D : va_G) (a0 af ab : Nat) (o ar : Nat → Nat) (cI cO : ClassId) (fd : Nat → Int32) (nf : Nat) (sg : Nat → Nat) (nb : Nat) (lw : Nat) (aw : Int32) (tm : Nat) (G : Nat → px_G) (B : Nat → Nat → Int32) (sz : Nat) (hl9 : l.stackTraces = false) (hlw : lw < 5) (n : Int32) : pw_Xi l yX1_about cX1_about 2 .int ({ frames := 6, cells := 1, slots := 6, locals := 150 }) D (px_T cI cO) [.ref a0, .int n] (px_W a0 af ab o ar cI cO fd nf sg nb lw aw tm G B) sz (σ := Unit) (fun r _ => (0 ≤ n.toInt ∧ n.toInt ≤ 3) ∧ ¬ aw = 0 ∧ r = px_ab (G lw) n) (fun _ => px_W a0 af ab o ar cI cO fd nf sg nb lw aw tm G B) (fun E => (E = exIA ∧ ¬ (0 ≤ n.toInt ∧ n.toInt ≤ 3)) ∨ (E = exIS ∧ (0 ≤ n.toInt ∧ n.toInt ≤ 3) ∧ aw = 0)) 1 6 := by
  refine pw_openX (by decide) (Nat.le_of_ble_eq_true rfl) ?_
  intro p e s m below meth c ls S hr hlk htb hl hsz w
  obtain ⟨hx, hb, hml, hown, hts⟩ := id S
  have hl : lv_has ls 2 [(0, .ref a0), (1, .int n)] := hl
  generalize va_A (px_W a0 af ab o ar cI cO fd nf sg nb lw aw tm G B) sz = A at w ⊢
  refine lv_iload_n hx hb dX1_about_0 rfl (lv_at hl 1 rfl) ?_
  refine lv_if_lt (tgt := 9) hx hb dX1_about_1 (by decide) (fun h1 => ?_) (fun h1 => ?_)
  · have h9 := Int32.lt_iff_toInt_lt.mp h1
    exact pw_throw (names := exN) S hl9 w (by decide +kernel) (by decide +kernel) eP_24 ini_IA tx79 at24_28_ok gd24_28_ok hl.1 dX1_about_9 dX1_about_12 dX1_about_13 dX1_about_15 dX1_about_18 htb (by decide) (by decide) (by decide) (by decide) hlk (Or.inl ⟨rfl, fun q => absurd q.1 (by have : (0 : Int32).toInt = 0 := rfl; omega)⟩) (by decide) (by decide)
  · refine lv_iload_n hx hb dX1_about_4 rfl (lv_at hl 1 rfl) ?_
    refine lv_iconst (v := 3) hx hb dX1_about_5 (by decide) ?_
    refine lv_icmp_le (tgt := 19) hx hb dX1_about_6 (by decide) (fun h2 => ?_) (fun h2 => ?_)
    · have hn0 : 0 ≤ n.toInt := by have h9 := pw_nlt h1; have : (0 : Int32).toInt = 0 := rfl; omega
      have hn3 : n.toInt ≤ 3 := by have h9 := Int32.le_iff_toInt_le.mp h2; have : (3 : Int32).toInt = 3 := rfl; omega
      refine lv_aload_n hx hb dX1_about_19 rfl (lv_at hl 0 rfl) ?_
      refine pw_get S w px_FP 0 rfl 5 (by decide) eP_81 (v := .int aw) rfl dX1_about_20 ?_
      refine lv_if_ne (tgt := 36) hx hb dX1_about_23 (by decide) (fun h3 => ?_) (fun h3 => ?_)
      · refine lv_iload_n hx hb dX1_about_36 rfl (lv_at hl 1 rfl) ?_
        have hc : n = 0 ∨ n = 1 ∨ n = 2 ∨ n = 3 := by
          obtain ⟨n9, hn9, rfl⟩ := nI_of h1
          rw [nI_toInt hn9] at hn3
          rcases (show n9 = 0 ∨ n9 = 1 ∨ n9 = 2 ∨ n9 = 3 by omega) with rfl | rfl | rfl | rfl
          · exact Or.inl rfl
          · exact Or.inr (Or.inl rfl)
          · exact Or.inr (Or.inr (Or.inl rfl))
          · exact Or.inr (Or.inr (Or.inr rfl))
        rcases hc with rfl | rfl | rfl | rfl
        · refine lv_tableIn (tgt := 64) hx hb dX1_about_37 (by decide) (by decide) rfl (by decide) ?_
          refine lv_aload_n hx hb dX1_about_64 rfl (lv_at hl 0 rfl) ?_
          refine pw_get S w px_FP 0 rfl 4 (by decide) eP_20 (v := .ref (o lw)) rfl dX1_about_65 ?_
          refine pw_getN S w px_FD (3 + 2 * lw) (px_ato hlw) 1 (by decide) eP_87 (v := .int (G lw).1) rfl dX1_about_68 ?_
          refine vx_ret ?_
          exact pw_reti S hr hlk () w ⟨⟨hn0, hn3⟩, h3, rfl⟩ (by decide) (by decide) dX1_about_71
        · refine lv_tableIn (tgt := 72) hx hb dX1_about_37 (by decide) (by decide) rfl (by decide) ?_
          refine lv_aload_n hx hb dX1_about_72 rfl (lv_at hl 0 rfl) ?_
          refine pw_get S w px_FP 0 rfl 4 (by decide) eP_20 (v := .ref (o lw)) rfl dX1_about_73 ?_
          refine pw_getN S w px_FD (3 + 2 * lw) (px_ato hlw) 2 (by decide) eP_90 (v := .int (G lw).2.1) rfl dX1_about_76 ?_
          refine vx_ret ?_
          exact pw_reti S hr hlk () w ⟨⟨hn0, hn3⟩, h3, rfl⟩ (by decide) (by decide) dX1_about_79
        · refine lv_tableIn (tgt := 80) hx hb dX1_about_37 (by decide) (by decide) rfl (by decide) ?_
          refine lv_aload_n hx hb dX1_about_80 rfl (lv_at hl 0 rfl) ?_
          refine pw_get S w px_FP 0 rfl 4 (by decide) eP_20 (v := .ref (o lw)) rfl dX1_about_81 ?_
          refine pw_getN S w px_FD (3 + 2 * lw) (px_ato hlw) 3 (by decide) eP_93 (v := .int (G lw).2.2.1) rfl dX1_about_84 ?_
          refine vx_ret ?_
          exact pw_reti S hr hlk () w ⟨⟨hn0, hn3⟩, h3, rfl⟩ (by decide) (by decide) dX1_about_87
        · refine lv_tableOut (tgt := 88) hx hb dX1_about_37 (by decide) (by decide) ?_
          refine lv_aload_n hx hb dX1_about_88 rfl (lv_at hl 0 rfl) ?_
          refine pw_get S w px_FP 0 rfl 4 (by decide) eP_20 (v := .ref (o lw)) rfl dX1_about_89 ?_
          refine pw_getN S w px_FD (3 + 2 * lw) (px_ato hlw) 4 (by decide) eP_52 (v := .int (G lw).2.2.2.1) rfl dX1_about_92 ?_
          refine vx_ret ?_
          exact pw_reti S hr hlk () w ⟨⟨hn0, hn3⟩, h3, rfl⟩ (by decide) (by decide) dX1_about_95
      · exact pw_throw (names := exN) S hl9 w (by decide +kernel) (by decide +kernel) eP_35 ini_IS tx85 at35_39_ok gd35_39_ok hl.1 dX1_about_26 dX1_about_29 dX1_about_30 dX1_about_32 dX1_about_35 htb (by decide) (by decide) (by decide) (by decide) hlk (Or.inr ⟨rfl, ⟨hn0, hn3⟩, h3⟩) (by decide) (by decide)
    · have h9 := fun q => h2 (Int32.le_iff_toInt_le.mpr q)
      exact pw_throw (names := exN) S hl9 w (by decide +kernel) (by decide +kernel) eP_24 ini_IA tx79 at24_28_ok gd24_28_ok hl.1 dX1_about_9 dX1_about_12 dX1_about_13 dX1_about_15 dX1_about_18 htb (by decide) (by decide) (by decide) (by decide) hlk (Or.inl ⟨rfl, fun q => h9 (by have : (3 : Int32).toInt = 3 := rfl; omega)⟩) (by decide) (by decide)

set_option maxHeartbeats 4000000 in
set_option maxRecDepth 100000 in
/-- byteAt -/
theorem px_c_byteAt (l : Launch) (D : va_G) (a0 af ab : Nat) (o ar : Nat → Nat) (cI cO : ClassId) (fd : Nat → Int32) (nf : Nat) (sg : Nat → Nat) (nb : Nat) (lw : Nat) (aw : Int32) (tm : Nat) (G : Nat → px_G) (B : Nat → Nat → Int32) (sz : Nat) (hl9 : l.stackTraces = false) (hlw : lw < 5) (zs : Nat) (hzs : ¬ aw = 0 → (G lw).2.2.2.1 = nI zs ∧ zs ≤ 1480) (i : Int32) : pw_Xi l yX1_byteAt cX1_byteAt 2 .int ({ frames := 6, cells := 1, slots := 6, locals := 150 }) D (px_T cI cO) [.ref a0, .int i] (px_W a0 af ab o ar cI cO fd nf sg nb lw aw tm G B) sz (σ := Unit) (fun r _ => ¬ aw = 0 ∧ ∃ i9, i9 < zs ∧ i = nI i9 ∧ r = B lw i9) (fun _ => px_W a0 af ab o ar cI cO fd nf sg nb lw aw tm G B) (fun E => (E = exIS ∧ aw = 0) ∨ (E = exIB ∧ ¬ aw = 0 ∧ ¬ (0 ≤ i.toInt ∧ i.toInt < zs))) 1 6 := by
  refine pw_openX (by decide) (Nat.le_of_ble_eq_true rfl) ?_
  intro p e s m below meth c ls S hr hlk htb hl hsz w
  obtain ⟨hx, hb, hml, hown, hts⟩ := id S
  have hl : lv_has ls 2 [(0, .ref a0), (1, .int i)] := hl
  generalize va_A (px_W a0 af ab o ar cI cO fd nf sg nb lw aw tm G B) sz = A at w ⊢
  refine lv_aload_n hx hb dX1_byteAt_0 rfl (lv_at hl 0 rfl) ?_
  refine pw_get S w px_FP 0 rfl 5 (by decide) eP_81 (v := .int aw) rfl dX1_byteAt_1 ?_
  refine lv_if_ne (tgt := 17) hx hb dX1_byteAt_4 (by decide) (fun h1 => ?_) (fun h1 => ?_)
  · obtain ⟨hz, hz2⟩ := hzs h1
    refine lv_iload_n hx hb dX1_byteAt_17 rfl (lv_at hl 1 rfl) ?_
    refine lv_if_lt (tgt := 32) hx hb dX1_byteAt_18 (by decide) (fun h2 => ?_) (fun h2 => ?_)
    · have h9 := Int32.lt_iff_toInt_lt.mp h2
      exact pw_throw (names := exN) S hl9 w (by decide +kernel) (by decide +kernel) eP_96 ini_IB tx98 at96_100_ok gd96_100_ok hl.1 dX1_byteAt_32 dX1_byteAt_35 dX1_byteAt_36 dX1_byteAt_38 dX1_byteAt_41 htb (by decide) (by decide) (by decide) (by decide) hlk (Or.inr ⟨rfl, h1, fun q => absurd q.1 (by have : (0 : Int32).toInt = 0 := rfl; omega)⟩) (by decide) (by decide)
    · refine lv_iload_n hx hb dX1_byteAt_21 rfl (lv_at hl 1 rfl) ?_
      refine lv_aload_n hx hb dX1_byteAt_22 rfl (lv_at hl 0 rfl) ?_
      refine pw_get S w px_FP 0 rfl 4 (by decide) eP_20 (v := .ref (o lw)) rfl dX1_byteAt_23 ?_
      refine pw_getN S w px_FD (3 + 2 * lw) (px_ato hlw) 4 (by decide) eP_52 (v := .int (G lw).2.2.2.1) rfl dX1_byteAt_26 ?_
      refine lv_icmp_lt (tgt := 42) hx hb dX1_byteAt_29 (by decide) (fun h3 => ?_) (fun h3 => ?_)
      · obtain ⟨i9, hi9, rfl⟩ := nI_of h2
        have hlt : i9 < zs := by rw [hz, nI_ltI hi9 (by omega)] at h3; exact h3
        refine lv_aload_n hx hb dX1_byteAt_42 rfl (lv_at hl 0 rfl) ?_
        refine pw_get S w px_FP 0 rfl 4 (by decide) eP_20 (v := .ref (o lw)) rfl dX1_byteAt_43 ?_
        refine pw_getN S w px_FD (3 + 2 * lw) (px_ato hlw) 0 (by decide) eP_101 (v := .ref (ar lw)) rfl dX1_byteAt_46 ?_
        refine lv_iload_n hx hb dX1_byteAt_49 rfl (lv_at hl 1 rfl) ?_
        refine pw_iald S w (4 + 2 * lw) 0 (px_ata hlw) rfl (j := i9) (by omega) (by decide) dX1_byteAt_50 ?_
        refine vx_ret ?_
        exact pw_reti S hr hlk () w ⟨h1, i9, hlt, rfl, rfl⟩ (by decide) (by decide) dX1_byteAt_51
      · have h9 := fun q => h3 (Int32.lt_iff_toInt_lt.mpr q)
        exact pw_throw (names := exN) S hl9 w (by decide +kernel) (by decide +kernel) eP_96 ini_IB tx98 at96_100_ok gd96_100_ok hl.1 dX1_byteAt_32 dX1_byteAt_35 dX1_byteAt_36 dX1_byteAt_38 dX1_byteAt_41 htb (by decide) (by decide) (by decide) (by decide) hlk (Or.inr ⟨rfl, h1, fun q => h9 (by rw [hz, nI_toInt (by omega)]; exact q.2)⟩) (by decide) (by decide)
  · exact pw_throw (names := exN) S hl9 w (by decide +kernel) (by decide +kernel) eP_35 ini_IS tx85 at35_39_ok gd35_39_ok hl.1 dX1_byteAt_7 dX1_byteAt_10 dX1_byteAt_11 dX1_byteAt_13 dX1_byteAt_16 htb (by decide) (by decide) (by decide) (by decide) hlk (Or.inl ⟨rfl, h1⟩) (by decide) (by decide)
end
section
set_option maxHeartbeats 4000000 in
set_option maxRecDepth 100000 in
/-- feed -/
theorem px_c_feed (l : Launch) (D : va_G) (a0 af ab : Nat) (o ar : Nat → Nat) (cI cO : ClassId) (fd : Nat → Int32) (nf : Nat) (sg : Nat → Nat) (nb : Nat) (lw : Nat) (aw : Int32) (tm : Nat) (G : Nat → px_G) (B : Nat → Nat → Int32) (sz : Nat) (hl9 : l.stackTraces = false) (hnf : nf ≤ 1480) (x : Int64) (n : Int32) : pw_Xi l yX1_feed cX1_feed 6 .int ({ frames := 6, cells := 1, slots := 6, locals := 150 }) D (px_T cI cO) [.ref a0, .long x, .int n] (px_W a0 af ab o ar cI cO fd nf sg nb lw aw tm G B) sz (σ := Nat × (Nat → Int32)) (fun r u => 1 ≤ u.1 ∧ u.1 ≤ 8 ∧ n = nI u.1 ∧ nf + u.1 ≤ 1480 ∧ u.2 = px_fd fd nf x n u.1 ∧ r = nI (nf + u.1)) (fun u => px_W a0 af ab o ar cI cO u.2 (nf + u.1) sg nb lw aw tm G B) (fun E => (E = exIA ∧ ¬ (1 ≤ n.toInt ∧ n.toInt ≤ 8)) ∨ (E = exIS ∧ (1 ≤ n.toInt ∧ n.toInt ≤ 8) ∧ 1480 < (nf : Int) + n.toInt)) 1 6 := by
  refine pw_openX (by decide) (Nat.le_of_ble_eq_true rfl) ?_
  intro p e s m below meth c ls S hr hlk htb hl hsz w
  obtain ⟨hx, hb, hml, hown, hts⟩ := id S
  have hl : lv_has ls 6 [(0, .ref a0), (1, .long x), (3, .int n)] := hl
  generalize va_A (px_W a0 af ab o ar cI cO fd nf sg nb lw aw tm G B) sz = A at w ⊢
  refine lv_iload_n hx hb dX1_feed_0 rfl (lv_at hl 2 rfl) ?_
  refine lv_iconst (v := 1) hx hb dX1_feed_1 (by decide) ?_
  refine lv_icmp_lt (tgt := 11) hx hb dX1_feed_2 (by decide) (fun h1 => ?_) (fun h1 => ?_)
  · have h9 := Int32.lt_iff_toInt_lt.mp h1
    exact pw_throw (names := exN) S hl9 w (by decide +kernel) (by decide +kernel) eP_24 ini_IA tx26 at24_28_ok gd24_28_ok hl.1 dX1_feed_11 dX1_feed_14 dX1_feed_15 dX1_feed_17 dX1_feed_20 htb (by decide) (by decide) (by decide) (by decide) hlk (Or.inl ⟨rfl, fun q => absurd q.1 (by have : (1 : Int32).toInt = 1 := rfl; omega)⟩) (by decide) (by decide)
  · refine lv_iload_n hx hb dX1_feed_5 rfl (lv_at hl 2 rfl) ?_
    refine lv_bipush (v := 8) hx hb dX1_feed_6 (by decide) ?_
    refine lv_icmp_le (tgt := 21) hx hb dX1_feed_8 (by decide) (fun h2 => ?_) (fun h2 => ?_)
    · have hn1 : 1 ≤ n.toInt := by have h9 := pw_nlt h1; have : (1 : Int32).toInt = 1 := rfl; omega
      have hn8 : n.toInt ≤ 8 := by have h9 := Int32.le_iff_toInt_le.mp h2; have : (8 : Int32).toInt = 8 := rfl; omega
      obtain ⟨n9, hn9, rfl⟩ := nI_of (x := n) (by rw [Int32.lt_iff_toInt_lt]; have : (0 : Int32).toInt = 0 := rfl; omega)
      rw [nI_toInt hn9] at hn1 hn8
      refine lv_iload_n hx hb dX1_feed_21 rfl (lv_at hl 2 rfl) ?_
      refine lv_sipush (v := 1480) hx hb dX1_feed_22 (by decide) ?_
      refine lv_aload_n hx hb dX1_feed_25 rfl (lv_at hl 0 rfl) ?_
      refine pw_get S w px_FP 0 rfl 1 (by decide) eP_31 (v := .int (nI nf)) rfl dX1_feed_26 ?_
      refine lv_isub hx hb dX1_feed_29 ?_
      refine pw_top (y := nI (1480 - nf)) (pk_sub (a := 1480) (b := nf) hnf) ?_
      refine lv_icmp_le (tgt := 43) hx hb dX1_feed_30 (by decide) (fun h3 => ?_) (fun h3 => ?_)
      · have h9 : n9 ≤ 1480 - nf := (nI_leI (by omega) (by omega)).mp h3
        refine lv_iconst (v := 0) hx hb dX1_feed_43 (by decide) ?_
        refine lv_istore (lv' := [(4, .int 0), (0, .ref a0), (1, .long x), (3, .int (nI n9))]) hx hb dX1_feed_44 hl (by decide) rfl (fun ls hl => ?_)
        clear h1 h2 h3
        have loop : ∀ (n : Nat) (i : Nat), i ≤ n9 → n9 < i + n → ∀ (H : Heap) (locs : List Loc), pw_S D (px_T cI cO) A (px_W a0 af ab o ar cI cO (px_fd fd nf x (nI n9) i) nf sg nb lw aw tm G B) s H locs → ∀ (ls : Array Slot), lv_has ls 6 [(4, .int (nI i)), (0, .ref a0), (1, .long x), (3, .int (nI n9))] → W p l e ({ frames := 6, cells := 1, slots := 6, locals := 150 }) s m #[Value.ref a0, Value.long x, Value.int (nI n9)] below meth c H locs 0 0 (vx_MQ below (va_Qi (S := Nat × (Nat → Int32)) (fun r u => 1 ≤ u.1 ∧ u.1 ≤ 8 ∧ nI n9 = nI u.1 ∧ nf + u.1 ≤ 1480 ∧ u.2 = px_fd fd nf x (nI n9) u.1 ∧ r = nI (nf + u.1)) (pw_B D (fun u => px_W a0 af ab o ar cI cO u.2 (nf + u.1) sg nb lw aw tm G B) (fun _ => px_T cI cO) A) A) (pw_X D (px_W a0 af ab o ar cI cO fd nf sg nb lw aw tm G B) (fun E => (E = exIA ∧ ¬ (1 ≤ (nI n9).toInt ∧ (nI n9).toInt ≤ 8)) ∨ (E = exIS ∧ (1 ≤ (nI n9).toInt ∧ (nI n9).toInt ≤ 8) ∧ 1480 < (nf : Int) + (nI n9).toInt)) A) #[Value.ref a0, Value.long x, Value.int (nI n9)] s 1 6 A) (F0 m 46 ls []) := by
          intro n
          induction n with
          | zero => intros; omega
          | succ n ih =>
            intro i hi hn H locs w ls hl
            refine lv_iload hx hb dX1_feed_46 (lv_at hl 0 rfl) ?_
            refine lv_iload_n hx hb dX1_feed_48 rfl (lv_at hl 3 rfl) ?_
            refine lv_icmp_ge (tgt := 90) hx hb dX1_feed_49 (by decide) (fun h1 => ?_) (fun h1 => ?_)
            · have e9 : i = n9 := by have := (nI_leI (a := n9) (b := i) (by omega) (by omega)).mp h1; omega
              subst e9
              refine lv_aload_n hx hb dX1_feed_90 rfl (lv_at hl 1 rfl) ?_
              refine lv_dup hx hb dX1_feed_91 rfl ?_
              refine pw_get S w px_FP 0 rfl 1 (by decide) eP_31 (v := .int (nI nf)) rfl dX1_feed_92 ?_
              refine lv_iload_n hx hb dX1_feed_95 rfl (lv_at hl 3 rfl) ?_
              refine lv_iadd hx hb dX1_feed_96 ?_
              refine pw_top (y := nI (nf + i)) (nI_add nf i) ?_
              refine pw_put S w px_FP 0 (fs := [.ref af, .int (nI nf), .ref ab, .int (nI nb), .ref (o lw), .int aw, .int (nI tm)]) rfl 1 (by decide) eP_31 rfl (v := .int (nI (nf + i))) rfl rfl (Nat.le_of_ble_eq_true rfl) dX1_feed_97 (fun H locs w => ?_)
              have w : pw_S D (px_T cI cO) A (px_W a0 af ab o ar cI cO (px_fd fd nf x (nI i) i) (nf + i) sg nb lw aw tm G B) s _ _ := w
              refine lv_aload_n hx hb dX1_feed_100 rfl (lv_at hl 1 rfl) ?_
              refine pw_get S w px_FP 0 rfl 1 (by decide) eP_31 (v := .int (nI (nf + i))) rfl dX1_feed_101 ?_
              refine vx_ret ?_
              exact pw_reti S hr hlk (i, px_fd fd nf x (nI i) i) w ⟨by omega, by omega, rfl, by omega, rfl, rfl⟩ (by decide) (by decide) dX1_feed_104
            · have hlt : i < n9 := Nat.lt_of_not_le (fun q => h1 ((nI_leI (a := n9) (b := i) (by omega) (by omega)).mpr q))
              refine lv_bipush (v := 8) hx hb dX1_feed_52 (by decide) ?_
              refine lv_iload_n hx hb dX1_feed_54 rfl (lv_at hl 3 rfl) ?_
              refine lv_iconst (v := 1) hx hb dX1_feed_55 (by decide) ?_
              refine lv_isub hx hb dX1_feed_56 ?_
              refine lv_iload hx hb dX1_feed_57 (lv_at hl 0 rfl) ?_
              refine lv_isub hx hb dX1_feed_59 ?_
              refine lv_imul hx hb dX1_feed_60 ?_
              refine lv_istore (lv' := [(5, .int (8 * (((nI n9) - 1) - (nI i)))), (4, .int (nI i)), (0, .ref a0), (1, .long x), (3, .int (nI n9))]) hx hb dX1_feed_61 hl (by decide) rfl (fun ls hl => ?_)
              refine lv_aload_n hx hb dX1_feed_63 rfl (lv_at hl 2 rfl) ?_
              refine pw_get S w px_FP 0 rfl 0 (by decide) eP_9 (v := .ref af) rfl dX1_feed_64 ?_
              refine lv_aload_n hx hb dX1_feed_67 rfl (lv_at hl 2 rfl) ?_
              refine pw_get S w px_FP 0 rfl 1 (by decide) eP_31 (v := .int (nI nf)) rfl dX1_feed_68 ?_
              refine lv_iload hx hb dX1_feed_71 (lv_at hl 1 rfl) ?_
              refine lv_iadd hx hb dX1_feed_73 ?_
              refine pw_top (y := nI (nf + i)) (nI_add nf i) ?_
              refine lv_lload_n hx hb dX1_feed_74 rfl (lv_at hl 3 rfl) ?_
              refine lv_iload hx hb dX1_feed_75 (lv_at hl 0 rfl) ?_
              refine lv_lushr hx hb dX1_feed_77 rfl ?_
              refine lv_l2i hx hb dX1_feed_78 rfl ?_
              refine lv_sipush (v := 255) hx hb dX1_feed_79 (by decide) ?_
              refine lv_iand hx hb dX1_feed_82 ?_
              refine pw_iast S w 1 0 (a := af) (f := px_fd fd nf x (nI n9) i) (n := 1480) (cA := cI) rfl rfl (j := nf + i) (by omega) (by decide) dX1_feed_83 (fun H locs w => ?_)
              have w : pw_S D (px_T cI cO) A (px_W a0 af ab o ar cI cO (px_fd fd nf x (nI n9) (i + 1)) nf sg nb lw aw tm G B) s _ _ := w
              refine lv_iinc (v := nI (i + 1)) (lv' := [(4, .int (nI (i + 1))), (5, .int (8 * (nI n9 - 1 - nI i))), (0, .ref a0), (1, .long x), (3, .int (nI n9))]) hx hb dX1_feed_84 hl (k := 1) rfl (nI_1 i) (by decide) rfl (fun ls hl => ?_)
              refine lv_goto (tgt := 46) hx hb dX1_feed_87 (by decide) ?_
              exact ih (i + 1) (by omega) (by omega) H locs w ls (lv_sub hl [0, 2, 3, 4] rfl)
        exact loop (n9 + 1) 0 (by omega) (by omega) _ _ w ls hl
      · have h9 : ¬ n9 ≤ 1480 - nf := fun q => h3 ((nI_leI (by omega) (by omega)).mpr q)
        exact pw_throw (names := exN) S hl9 w (by decide +kernel) (by decide +kernel) eP_35 ini_IS tx37 at35_39_ok gd35_39_ok hl.1 dX1_feed_33 dX1_feed_36 dX1_feed_37 dX1_feed_39 dX1_feed_42 htb (by decide) (by decide) (by decide) (by decide) hlk (Or.inr ⟨rfl, by rw [nI_toInt hn9]; omega, by rw [nI_toInt hn9]; omega⟩) (by decide) (by decide)
    · have h9 := fun q => h2 (Int32.le_iff_toInt_le.mpr q)
      exact pw_throw (names := exN) S hl9 w (by decide +kernel) (by decide +kernel) eP_24 ini_IA tx26 at24_28_ok gd24_28_ok hl.1 dX1_feed_11 dX1_feed_14 dX1_feed_15 dX1_feed_17 dX1_feed_20 htb (by decide) (by decide) (by decide) (by decide) hlk (Or.inl ⟨rfl, fun q => h9 (by have : (8 : Int32).toInt = 8 := rfl; omega)⟩) (by decide) (by decide)

set_option maxHeartbeats 4000000 in
set_option maxRecDepth 100000 in
/-- pass -/
theorem px_c_pass (l : Launch) (D : va_G) (a0 af ab : Nat) (o ar : Nat → Nat) (cI cO : ClassId) (fd : Nat → Int32) (nf : Nat) (sg : Nat → Nat) (nb : Nat) (lw : Nat) (aw : Int32) (tm : Nat) (G : Nat → px_G) (B : Nat → Nat → Int32) (sz : Nat) (hl9 : l.stackTraces = false) (htm : tm ≤ 1000000000) (hnb : nb ≤ 4) (hsg : ∀ q, q < 4 → sg q < 5) (n : Int32) : pw_Xi l yX1_pass cX1_pass 2 .int ({ frames := 6, cells := 1, slots := 6, locals := 150 }) D (px_T cI cO) [.ref a0, .int n] (px_W a0 af ab o ar cI cO fd nf sg nb lw aw tm G B) sz (σ := Nat) (fun r u => u ≤ 1000000 ∧ n = nI u ∧ tm + u ≤ 1000000000 ∧ r = nI (nb - (px_gv (tm + u) G 4 sg nb).2)) (fun u => px_W a0 af ab o ar cI cO fd nf ((px_gv (tm + u) G 4 sg nb).1) ((px_gv (tm + u) G 4 sg nb).2) lw aw (tm + u) G B) (fun E => (E = exIA ∧ ¬ (0 ≤ n.toInt ∧ n.toInt ≤ 1000000)) ∨ (E = exIS ∧ (0 ≤ n.toInt ∧ n.toInt ≤ 1000000) ∧ 1000000000 < (tm : Int) + n.toInt)) 1 6 := by
  refine pw_openX (by decide) (Nat.le_of_ble_eq_true rfl) ?_
  intro p e s m below meth c ls S hr hlk htb hl hsz w
  obtain ⟨hx, hb, hml, hown, hts⟩ := id S
  have hl : lv_has ls 2 [(0, .ref a0), (1, .int n)] := hl
  generalize va_A (px_W a0 af ab o ar cI cO fd nf sg nb lw aw tm G B) sz = A at w ⊢
  refine lv_iload_n hx hb dX1_pass_0 rfl (lv_at hl 1 rfl) ?_
  refine lv_if_lt (tgt := 10) hx hb dX1_pass_1 (by decide) (fun h1 => ?_) (fun h1 => ?_)
  · have h9 := Int32.lt_iff_toInt_lt.mp h1
    exact pw_throw (names := exN) S hl9 w (by decide +kernel) (by decide +kernel) eP_24 ini_IA tx67 at24_28_ok gd24_28_ok hl.1 dX1_pass_10 dX1_pass_13 dX1_pass_14 dX1_pass_16 dX1_pass_19 htb (by decide) (by decide) (by decide) (by decide) hlk (Or.inl ⟨rfl, fun q => absurd q.1 (by have : (0 : Int32).toInt = 0 := rfl; omega)⟩) (by decide) (by decide)
  · refine lv_iload_n hx hb dX1_pass_4 rfl (lv_at hl 1 rfl) ?_
    refine lv_ldc (v := 1000000) hx hb hown (hts _ cP_66) dX1_pass_5 ?_
    refine lv_icmp_le (tgt := 20) hx hb dX1_pass_7 (by decide) (fun h2 => ?_) (fun h2 => ?_)
    · have hn8 : n.toInt ≤ 1000000 := by have h9 := Int32.le_iff_toInt_le.mp h2; have : (1000000 : Int32).toInt = 1000000 := rfl; omega
      obtain ⟨n9, hn9, rfl⟩ := nI_of h1
      rw [nI_toInt hn9] at hn8
      refine lv_iload_n hx hb dX1_pass_20 rfl (lv_at hl 1 rfl) ?_
      refine lv_ldc (v := 1000000000) hx hb hown (hts _ cP_69) dX1_pass_21 ?_
      refine lv_aload_n hx hb dX1_pass_23 rfl (lv_at hl 0 rfl) ?_
      refine pw_get S w px_FP 0 rfl 6 (by decide) eP_70 (v := .int (nI tm)) rfl dX1_pass_24 ?_
      refine lv_isub hx hb dX1_pass_27 ?_
      refine pw_top (y := nI (1000000000 - tm)) (pk_sub (a := 1000000000) (b := tm) htm) ?_
      refine lv_icmp_le (tgt := 41) hx hb dX1_pass_28 (by decide) (fun h3 => ?_) (fun h3 => ?_)
      · have h9 : n9 ≤ 1000000000 - tm := (nI_leI (by omega) (by omega)).mp h3
        refine lv_aload_n hx hb dX1_pass_41 rfl (lv_at hl 0 rfl) ?_
        refine lv_dup hx hb dX1_pass_42 rfl ?_
        refine pw_get S w px_FP 0 rfl 6 (by decide) eP_70 (v := .int (nI tm)) rfl dX1_pass_43 ?_
        refine lv_iload_n hx hb dX1_pass_46 rfl (lv_at hl 1 rfl) ?_
        refine lv_iadd hx hb dX1_pass_47 ?_
        refine pw_top (y := nI (tm + n9)) (nI_add tm n9) ?_
        refine pw_put S w px_FP 0 (fs := [.ref af, .int (nI nf), .ref ab, .int (nI nb), .ref (o lw), .int aw, .int (nI tm)]) rfl 6 (by decide) eP_70 rfl (v := .int (nI (tm + n9))) rfl rfl (Nat.le_of_ble_eq_true rfl) dX1_pass_48 (fun H locs w => ?_)
        have w : pw_S D (px_T cI cO) A (px_W a0 af ab o ar cI cO fd nf sg nb lw aw (tm + n9) G B) s _ _ := w
        refine lv_aload_n hx hb dX1_pass_51 rfl (lv_at hl 0 rfl) ?_
        refine pw_goi0 w.all (va_runV (C := RP) (As := []) (rest := []) S (px_c_giveUp l D a0 af ab o ar cI cO fd nf sg nb lw aw (tm + n9) G B _ hnb hsg) (pw_cw (n := 0) S eP_75 iP_giveUpOverdue sP_giveUpOverdue iniP kP_giveUpOverdue rfl rfl (by decide +kernel) ⟨by decide, by decide⟩) ⟨pw_blind, va_recv w.1 w.2.1 (ci := cP) (q0 := 0) rfl rfl, pw_pre w.all w.1⟩ rfl rfl hl.1 rfl (lv_room (Nat.le_of_ble_eq_true rfl)) dX1_pass_52 ⟨Nat.zero_le _, Nat.zero_le _⟩) (fun r _ H locs hp w => ?_)
        have w := w.one
        subst hp
        refine vx_ret ?_
        exact pw_reti S hr hlk n9 w ⟨by omega, rfl, by omega, rfl⟩ (by decide) (by decide) dX1_pass_55
      · have h9 : ¬ n9 ≤ 1000000000 - tm := fun q => h3 ((nI_leI (by omega) (by omega)).mpr q)
        exact pw_throw (names := exN) S hl9 w (by decide +kernel) (by decide +kernel) eP_35 ini_IS tx73 at35_39_ok gd35_39_ok hl.1 dX1_pass_31 dX1_pass_34 dX1_pass_35 dX1_pass_37 dX1_pass_40 htb (by decide) (by decide) (by decide) (by decide) hlk (Or.inr ⟨rfl, by rw [nI_toInt hn9]; omega, by rw [nI_toInt hn9]; omega⟩) (by decide) (by decide)
    · have h9 := fun q => h2 (Int32.le_iff_toInt_le.mpr q)
      exact pw_throw (names := exN) S hl9 w (by decide +kernel) (by decide +kernel) eP_24 ini_IA tx67 at24_28_ok gd24_28_ok hl.1 dX1_pass_10 dX1_pass_13 dX1_pass_14 dX1_pass_16 dX1_pass_19 htb (by decide) (by decide) (by decide) (by decide) hlk (Or.inl ⟨rfl, fun q => h9 (by have : (1000000 : Int32).toInt = 1000000 := rfl; omega)⟩) (by decide) (by decide)
end
section
set_option maxHeartbeats 4000000 in
set_option maxRecDepth 100000 in
/-- piece -/
theorem px_c_piece (l : Launch) (D : va_G) (a0 af ab : Nat) (o ar : Nat → Nat) (cI cO : ClassId) (fd : Nat → Int32) (nf : Nat) (sg : Nat → Nat) (nb : Nat) (lw : Nat) (aw : Int32) (tm : Nat) (G : Nat → px_G) (B : Nat → Nat → Int32) (sz : Nat) (hl9 : l.stackTraces = false) (hnf : nf ≤ 1480) (hnb : nb ≤ 4) (hsg : ∀ q, q < 4 → sg q < 5) (hlw : lw < 5) (a b d3 fm wl : Int32) : pw_Xi l yX1_piece cX1_piece 9 .int ({ frames := 6, cells := 1, slots := 6, locals := 150 }) D (px_T cI cO) [.ref a0, .int a, .int b, .int d3, .int fm, .int wl] (px_W a0 af ab o ar cI cO fd nf sg nb lw aw tm G B) sz (σ := px_R) (fun r u => ∃ (fr wh : Nat) (x : Option Nat), fm = nI fr ∧ wl = nI wh ∧ 1 ≤ wh ∧ wh ≤ 1480 ∧ 0 < nf ∧ fr + nf ≤ wh ∧ px_fnd sg G nb a b d3 x ∧ (r, u) = px_pc fd nf fr a b d3 wl sg nb lw aw tm G B x) (fun u => px_W a0 af ab o ar cI cO fd 0 u.1 u.2.1 u.2.2.1 u.2.2.2.1 tm u.2.2.2.2.1 u.2.2.2.2.2) (fun E => (E = exIA ∧ ¬ (1 ≤ wl.toInt ∧ wl.toInt ≤ 1480 ∧ 0 ≤ fm.toInt)) ∨ (E = exIS ∧ (1 ≤ wl.toInt ∧ wl.toInt ≤ 1480 ∧ 0 ≤ fm.toInt) ∧ ¬ (0 < nf ∧ fm.toInt + nf ≤ wl.toInt))) 1 6 := by
  refine pw_openX (by decide) (Nat.le_of_ble_eq_true rfl) ?_
  intro p e s m below meth c ls S hr hlk htb hl hsz w
  obtain ⟨hx, hb, hml, hown, hts⟩ := id S
  have hl : lv_has ls 9 [(0, .ref a0), (1, .int a), (2, .int b), (3, .int d3), (4, .int fm), (5, .int wl)] := hl
  generalize va_A (px_W a0 af ab o ar cI cO fd nf sg nb lw aw tm G B) sz = A at w ⊢
  refine lv_iload hx hb dX1_piece_0 (lv_at hl 5 rfl) ?_
  refine lv_iconst (v := 1) hx hb dX1_piece_2 (by decide) ?_
  refine lv_icmp_lt (tgt := 19) hx hb dX1_piece_3 (by decide) (fun h1 => ?_) (fun h1 => ?_)
  · have h9 := Int32.lt_iff_toInt_lt.mp h1
    exact pw_throw (names := exN) S hl9 w (by decide +kernel) (by decide +kernel) eP_24 ini_IA tx40 at24_28_ok gd24_28_ok hl.1 dX1_piece_19 dX1_piece_22 dX1_piece_23 dX1_piece_25 dX1_piece_28 htb (by decide) (by decide) (by decide) (by decide) hlk (Or.inl ⟨rfl, fun q => absurd q.1 (by have : (1 : Int32).toInt = 1 := rfl; omega)⟩) (by decide) (by decide)
  · refine lv_iload hx hb dX1_piece_6 (lv_at hl 5 rfl) ?_
    refine lv_sipush (v := 1480) hx hb dX1_piece_8 (by decide) ?_
    refine lv_icmp_gt (tgt := 19) hx hb dX1_piece_11 (by decide) (fun h2 => ?_) (fun h2 => ?_)
    · have h9 := Int32.lt_iff_toInt_lt.mp h2
      exact pw_throw (names := exN) S hl9 w (by decide +kernel) (by decide +kernel) eP_24 ini_IA tx40 at24_28_ok gd24_28_ok hl.1 dX1_piece_19 dX1_piece_22 dX1_piece_23 dX1_piece_25 dX1_piece_28 htb (by decide) (by decide) (by decide) (by decide) hlk (Or.inl ⟨rfl, fun q => absurd q.2.1 (by have : (1480 : Int32).toInt = 1480 := rfl; omega)⟩) (by decide) (by decide)
    · refine lv_iload hx hb dX1_piece_14 (lv_at hl 4 rfl) ?_
      refine lv_if_ge (tgt := 29) hx hb dX1_piece_16 (by decide) (fun h3 => ?_) (fun h3 => ?_)
      · have hw1 : 1 ≤ wl.toInt := by have h9 := pw_nlt h1; have : (1 : Int32).toInt = 1 := rfl; omega
        have hw2 : wl.toInt ≤ 1480 := by have h9 := pw_nlt h2; have : (1480 : Int32).toInt = 1480 := rfl; omega
        have hf0 : 0 ≤ fm.toInt := by have h9 := Int32.le_iff_toInt_le.mp h3; have : (0 : Int32).toInt = 0 := rfl; omega
        obtain ⟨wh, hwh, ewl⟩ := nI_of (x := wl) (by rw [Int32.lt_iff_toInt_lt]; have : (0 : Int32).toInt = 0 := rfl; omega)
        obtain ⟨fr, hfr, efm⟩ := nI_of (x := fm) (by rw [Int32.lt_iff_toInt_lt]; have : (0 : Int32).toInt = 0 := rfl; omega)
        have ewi : wl.toInt = wh := by rw [ewl, nI_toInt hwh]
        have efi : fm.toInt = fr := by rw [efm, nI_toInt hfr]
        clear h1 h2 h3
        refine lv_aload_n hx hb dX1_piece_29 rfl (lv_at hl 0 rfl) ?_
        refine pw_get S w px_FP 0 rfl 1 (by decide) eP_31 (v := .int (nI nf)) rfl dX1_piece_30 ?_
        refine lv_if_eq (tgt := 48) hx hb dX1_piece_33 (by decide) (fun h1 => ?_) (fun h1 => ?_)
        · have h9 : nf = 0 := (nI_eq (a := nf) (b := 0) (by omega) (by decide)).mp h1
          exact pw_throw (names := exN) S hl9 w (by decide +kernel) (by decide +kernel) eP_35 ini_IS tx42 at35_39_ok gd35_39_ok hl.1 dX1_piece_48 dX1_piece_51 dX1_piece_52 dX1_piece_54 dX1_piece_57 htb (by decide) (by decide) (by decide) (by decide) hlk (Or.inr ⟨rfl, ⟨hw1, hw2, hf0⟩, fun q => by omega⟩) (by decide) (by decide)
        · have hnf0 : 0 < nf := Nat.pos_of_ne_zero (fun q => h1 (by rw [q]; rfl))
          refine lv_iload hx hb dX1_piece_36 (lv_at hl 4 rfl) ?_
          refine lv_iload hx hb dX1_piece_38 (lv_at hl 5 rfl) ?_
          refine lv_aload_n hx hb dX1_piece_40 rfl (lv_at hl 0 rfl) ?_
          refine pw_get S w px_FP 0 rfl 1 (by decide) eP_31 (v := .int (nI nf)) rfl dX1_piece_41 ?_
          refine lv_isub hx hb dX1_piece_44 ?_
          refine lv_icmp_le (tgt := 58) hx hb dX1_piece_45 (by decide) (fun h2 => ?_) (fun h2 => ?_)
          · have h9 := Int32.le_iff_toInt_le.mp h2
            have h8 : (wl - nI nf).toInt = (wh : Int) - nf := by rw [ewl]; exact pk_sub_toInt (by omega) (by omega)
            have hfit : fr + nf ≤ wh := by rw [h8] at h9; omega
            clear h9 h8 h2 h1
            refine lv_aload_n hx hb dX1_piece_58 rfl (lv_at hl 0 rfl) ?_
            refine pw_get S w px_FP 0 rfl 1 (by decide) eP_31 (v := .int (nI nf)) rfl dX1_piece_59 ?_
            refine lv_istore (lv' := [(6, .int (nI nf)), (0, .ref a0), (1, .int a), (2, .int b), (3, .int d3), (4, .int fm), (5, .int wl)]) hx hb dX1_piece_62 hl (by decide) rfl (fun ls hl => ?_)
            refine lv_aload_n hx hb dX1_piece_64 rfl (lv_at hl 1 rfl) ?_
            refine lv_iconst (v := 0) hx hb dX1_piece_65 (by decide) ?_
            refine pw_top (y := nI 0) rfl ?_
            refine pw_put S w px_FP 0 (fs := [.ref af, .int (nI nf), .ref ab, .int (nI nb), .ref (o lw), .int aw, .int (nI tm)]) rfl 1 (by decide) eP_31 rfl (v := .int (nI 0)) rfl rfl (Nat.le_of_ble_eq_true rfl) dX1_piece_66 (fun H locs w => ?_)
            have w : pw_S D (px_T cI cO) A (px_W a0 af ab o ar cI cO fd 0 sg nb lw aw tm G B) s _ _ := w
            refine lv_aload_n hx hb dX1_piece_69 rfl (lv_at hl 1 rfl) ?_
            refine lv_iload_n hx hb dX1_piece_70 rfl (lv_at hl 2 rfl) ?_
            refine lv_iload_n hx hb dX1_piece_71 rfl (lv_at hl 3 rfl) ?_
            refine lv_iload_n hx hb dX1_piece_72 rfl (lv_at hl 4 rfl) ?_
            have tail : ∀ (k n1 : Nat) (s1 : Nat → Nat) (G1 : Nat → px_G) (B1 : Nat → Nat → Int32), k < n1 → n1 ≤ 4 → (∀ q, q < 4 → s1 q < 5) → (∃ x, px_fnd sg G nb a b d3 x ∧ px_tk fd nf fr wl k s1 n1 lw aw G1 B1 = px_pc fd nf fr a b d3 wl sg nb lw aw tm G B x) → ∀ (H : Heap) (locs : List Loc), pw_S D (px_T cI cO) A (px_W a0 af ab o ar cI cO fd 0 s1 n1 lw aw tm G1 B1) s H locs → ∀ (ls : Array Slot), lv_has ls 9 [(7, .int (nI k)), (6, .int (nI nf)), (0, .ref a0), (1, .int a), (2, .int b), (3, .int d3), (4, .int fm), (5, .int wl)] → W p l e ({ frames := 6, cells := 1, slots := 6, locals := 150 }) s m #[Value.ref a0, Value.int a, Value.int b, Value.int d3, Value.int fm, Value.int wl] below meth c H locs 0 0 (vx_MQ below (va_Qi (S := px_R) (fun r u => ∃ (fr wh : Nat) (x : Option Nat), fm = nI fr ∧ wl = nI wh ∧ 1 ≤ wh ∧ wh ≤ 1480 ∧ 0 < nf ∧ fr + nf ≤ wh ∧ px_fnd sg G nb a b d3 x ∧ (r, u) = px_pc fd nf fr a b d3 wl sg nb lw aw tm G B x) (pw_B D (fun u => px_W a0 af ab o ar cI cO fd 0 u.1 u.2.1 u.2.2.1 u.2.2.2.1 tm u.2.2.2.2.1 u.2.2.2.2.2) (fun _ => px_T cI cO) A) A) (pw_X D (px_W a0 af ab o ar cI cO fd nf sg nb lw aw tm G B) (fun E => (E = exIA ∧ ¬ (1 ≤ wl.toInt ∧ wl.toInt ≤ 1480 ∧ 0 ≤ fm.toInt)) ∨ (E = exIS ∧ (1 ≤ wl.toInt ∧ wl.toInt ≤ 1480 ∧ 0 ≤ fm.toInt) ∧ ¬ (0 < nf ∧ fm.toInt + nf ≤ wl.toInt))) A) #[Value.ref a0, Value.int a, Value.int b, Value.int d3, Value.int fm, Value.int wl] s 1 6 A) (F0 m 95 ls []) := by
              intro k n1 s1 G1 B1 hk hn1 hs1 hres H locs w ls hl
              obtain ⟨x, hfx, hres⟩ := hres
              have hj : s1 k < 5 := hs1 k (by omega)
              refine lv_aload_n hx hb dX1_piece_95 rfl (lv_at hl 2 rfl) ?_
              refine pw_get S w px_FP 0 rfl 2 (by decide) eP_15 (v := .ref ab) rfl dX1_piece_96 ?_
              refine lv_iload hx hb dX1_piece_99 (lv_at hl 0 rfl) ?_
              refine pw_aald S w 2 1 (v := o (s1 k)) rfl rfl (j := k) (by omega) (by decide) (px_bf_at (by omega)) dX1_piece_101 ?_
              refine lv_astore (lv' := [(8, .ref (o (s1 k))), (7, .int (nI k)), (6, .int (nI nf)), (0, .ref a0), (1, .int a), (2, .int b), (3, .int d3), (4, .int fm), (5, .int wl)]) hx hb dX1_piece_102 hl (by decide) rfl (fun ls hl => ?_)
              refine lv_aload hx hb dX1_piece_104 (lv_at hl 0 rfl) ?_
              refine pw_getN S w px_FD (3 + 2 * (s1 k)) (px_ato hj) 4 (by decide) eP_52 (v := .int (G1 (s1 k)).2.2.2.1) rfl dX1_piece_106 ?_
              refine lv_iload hx hb dX1_piece_109 (lv_at hl 8 rfl) ?_
              refine lv_icmp_eq (tgt := 116) hx hb dX1_piece_111 (by decide) (fun h1 => ?_) (fun h1 => ?_)
              · refine lv_aload hx hb dX1_piece_116 (lv_at hl 0 rfl) ?_
                refine lv_aload_n hx hb dX1_piece_118 rfl (lv_at hl 3 rfl) ?_
                refine pw_get S w px_FP 0 rfl 0 (by decide) eP_9 (v := .ref af) rfl dX1_piece_119 ?_
                refine lv_iload hx hb dX1_piece_122 (lv_at hl 2 rfl) ?_
                refine lv_iload hx hb dX1_piece_124 (lv_at hl 7 rfl) ?_
                have w : pw_S D (px_T cI cO) A (px_W a0 af ab o ar cI cO fd 0 s1 n1 lw aw tm (va_up G1 (s1 k) (G1 (s1 k))) (va_up B1 (s1 k) (B1 (s1 k)))) s _ _ := w.to (by rw [px_id, px_id])
                refine pw_gov0 w.all (va_runVN (C := RD) (As := [.ref af, .int (nI nf), .int fm]) (rest := []) S (by rw [efm]; exact px_c_take l D a0 af ab o ar cI cO fd 0 s1 n1 lw aw tm G1 B1 _ (s1 k) hj (G1 (s1 k)) (B1 (s1 k)) nf fr (by omega)) (⟨pw_cn (n := 3) S w.2.2.2.2.2 eP_55 iniD kD_take rfl rfl (by decide +kernel) ⟨by decide, by decide⟩, S.2.2.2.2 _ iD_take, S.2.2.2.2 _ sD_take⟩) ⟨pw_blind, va_recv w.1 w.2.1 (ci := cD) (q0 := (3 + 2 * (s1 k))) rfl (px_ato' hj), pw_pre w.all w.1⟩ rfl rfl hl.1 rfl (lv_room (Nat.le_of_ble_eq_true rfl)) dX1_piece_126 ⟨Nat.zero_le _, Nat.zero_le _⟩) (fun  _ H locs _ _ w => ?_)
                have w := w.one
                have w : pw_S D (px_T cI cO) A (px_W a0 af ab o ar cI cO fd 0 s1 n1 lw aw tm (va_up G1 (s1 k) ((G1 (s1 k)).1, (G1 (s1 k)).2.1, (G1 (s1 k)).2.2.1, (G1 (s1 k)).2.2.2.1, px_tL (B1 (s1 k)) fd fr (G1 (s1 k)).2.2.2.2.1 nf, (G1 (s1 k)).2.2.2.2.2)) (va_up B1 (s1 k) (px_tB (B1 (s1 k)) fd fr nf))) s _ _ := w
                refine lv_aload hx hb dX1_piece_129 (lv_at hl 0 rfl) ?_
                refine pw_getN S w px_FD (3 + 2 * (s1 k)) (px_ato' hj) 5 (by decide) eP_59 (v := .int (px_tL (B1 (s1 k)) fd fr (G1 (s1 k)).2.2.2.2.1 nf)) rfl dX1_piece_131 ?_
                refine lv_if_le (tgt := 139) hx hb dX1_piece_134 (by decide) (fun h2 => ?_) (fun h2 => ?_)
                · refine lv_aload_n hx hb dX1_piece_139 rfl (lv_at hl 3 rfl) ?_
                  refine lv_iload hx hb dX1_piece_140 (lv_at hl 1 rfl) ?_
                  refine pw_gov0 w.all (va_runV (C := RP) (As := [.int (nI k)]) (rest := []) S (px_c_finish l D a0 af ab o ar cI cO fd 0 s1 n1 lw aw tm (va_up G1 (s1 k) ((G1 (s1 k)).1, (G1 (s1 k)).2.1, (G1 (s1 k)).2.2.1, (G1 (s1 k)).2.2.2.1, px_tL (B1 (s1 k)) fd fr (G1 (s1 k)).2.2.2.2.1 nf, (G1 (s1 k)).2.2.2.2.2)) (va_up B1 (s1 k) (px_tB (B1 (s1 k)) fd fr nf)) _ k hk hn1 hs1 hlw) (pw_cw (n := 1) S eP_62 iP_finish sP_finish iniP kP_finish rfl rfl (by decide +kernel) ⟨by decide, by decide⟩) ⟨pw_blind, va_recv w.1 w.2.1 (ci := cP) (q0 := 0) rfl rfl, pw_pre w.all w.1⟩ rfl rfl hl.1 rfl (lv_room (Nat.le_of_ble_eq_true rfl)) dX1_piece_142 ⟨Nat.zero_le _, Nat.zero_le _⟩) (fun  _ H locs _ _ w => ?_)
                  have w := w.one
                  have e9 : px_tk fd nf fr wl k s1 n1 lw aw G1 B1 = (1, va_up (px_rot s1 k n1) (n1 - 1) lw, n1 - 1, px_rot s1 k n1 (n1 - 1), 1, va_up G1 (s1 k) ((G1 (s1 k)).1, (G1 (s1 k)).2.1, (G1 (s1 k)).2.2.1, (G1 (s1 k)).2.2.2.1, px_tL (B1 (s1 k)) fd fr (G1 (s1 k)).2.2.2.2.1 nf, (G1 (s1 k)).2.2.2.2.2), va_up B1 (s1 k) (px_tB (B1 (s1 k)) fd fr nf)) := (if_pos h1).trans (if_pos h2)
                  have w : pw_S D (px_T cI cO) A (px_W a0 af ab o ar cI cO fd 0 (va_up (px_rot s1 k n1) (n1 - 1) lw) (n1 - 1) (px_rot s1 k n1 (n1 - 1)) 1 tm (va_up G1 (s1 k) ((G1 (s1 k)).1, (G1 (s1 k)).2.1, (G1 (s1 k)).2.2.1, (G1 (s1 k)).2.2.2.1, px_tL (B1 (s1 k)) fd fr (G1 (s1 k)).2.2.2.2.1 nf, (G1 (s1 k)).2.2.2.2.2)) (va_up B1 (s1 k) (px_tB (B1 (s1 k)) fd fr nf))) s _ _ := w
                  refine lv_iconst (v := 1) hx hb dX1_piece_145 (by decide) ?_
                  refine vx_ret ?_
                  exact pw_reti S hr hlk (va_up (px_rot s1 k n1) (n1 - 1) lw, n1 - 1, px_rot s1 k n1 (n1 - 1), 1, va_up G1 (s1 k) ((G1 (s1 k)).1, (G1 (s1 k)).2.1, (G1 (s1 k)).2.2.1, (G1 (s1 k)).2.2.2.1, px_tL (B1 (s1 k)) fd fr (G1 (s1 k)).2.2.2.2.1 nf, (G1 (s1 k)).2.2.2.2.2), va_up B1 (s1 k) (px_tB (B1 (s1 k)) fd fr nf)) w ⟨fr, wh, x, efm, ewl, by omega, by omega, hnf0, hfit, hfx, by rw [← hres, e9]⟩ (by decide) (by decide) dX1_piece_146
                · have e9 : px_tk fd nf fr wl k s1 n1 lw aw G1 B1 = (0, s1, n1, lw, aw, va_up G1 (s1 k) ((G1 (s1 k)).1, (G1 (s1 k)).2.1, (G1 (s1 k)).2.2.1, (G1 (s1 k)).2.2.2.1, px_tL (B1 (s1 k)) fd fr (G1 (s1 k)).2.2.2.2.1 nf, (G1 (s1 k)).2.2.2.2.2), va_up B1 (s1 k) (px_tB (B1 (s1 k)) fd fr nf)) := (if_pos h1).trans (if_neg h2)
                  refine lv_iconst (v := 0) hx hb dX1_piece_137 (by decide) ?_
                  refine vx_ret ?_
                  exact pw_reti S hr hlk (s1, n1, lw, aw, va_up G1 (s1 k) ((G1 (s1 k)).1, (G1 (s1 k)).2.1, (G1 (s1 k)).2.2.1, (G1 (s1 k)).2.2.2.1, px_tL (B1 (s1 k)) fd fr (G1 (s1 k)).2.2.2.2.1 nf, (G1 (s1 k)).2.2.2.2.2), va_up B1 (s1 k) (px_tB (B1 (s1 k)) fd fr nf)) w ⟨fr, wh, x, efm, ewl, by omega, by omega, hnf0, hfit, hfx, by rw [← hres, e9]⟩ (by decide) (by decide) dX1_piece_138
              · refine lv_iconst (v := (-1)) hx hb dX1_piece_114 (by decide) ?_
                have e9 : px_tk fd nf fr wl k s1 n1 lw aw G1 B1 = (-1, s1, n1, lw, aw, G1, B1) := if_neg h1
                refine vx_ret ?_
                exact pw_reti S hr hlk (s1, n1, lw, aw, G1, B1) w ⟨fr, wh, x, efm, ewl, by omega, by omega, hnf0, hfit, hfx, by rw [← hres, e9]⟩ (by decide) (by decide) dX1_piece_115
            refine pw_goi0 w.all (va_runV (C := RP) (As := [.int a, .int b, .int d3]) (rest := []) S (px_c_placeOf l D a0 af ab o ar cI cO fd 0 sg nb lw aw tm G B _ hnb hsg a b d3) (pw_cw (n := 3) S eP_44 iP_placeOf sP_placeOf iniP kP_placeOf rfl rfl (by decide +kernel) ⟨by decide, by decide⟩) ⟨pw_blind, va_recv w.1 w.2.1 (ci := cP) (q0 := 0) rfl rfl, pw_pre w.all w.1⟩ rfl rfl hl.1 rfl (lv_room (Nat.le_of_ble_eq_true rfl)) dX1_piece_73 ⟨Nat.zero_le _, Nat.zero_le _⟩) (fun r _ H locs hp w => ?_)
            have w := w.one
            have w : pw_S D (px_T cI cO) A (px_W a0 af ab o ar cI cO fd 0 sg nb lw aw tm G B) s _ _ := w
            obtain ⟨x, hfx, rfl⟩ := hp
            refine lv_istore (lv' := [(7, .int (px_ix x)), (6, .int (nI nf)), (0, .ref a0), (1, .int a), (2, .int b), (3, .int d3), (4, .int fm), (5, .int wl)]) hx hb dX1_piece_76 hl (by decide) rfl (fun ls hl => ?_)
            refine lv_iload hx hb dX1_piece_78 (lv_at hl 0 rfl) ?_
            refine lv_iconst (v := (-1)) hx hb dX1_piece_80 (by decide) ?_
            refine lv_icmp_ne (tgt := 95) hx hb dX1_piece_81 (by decide) (fun h1 => ?_) (fun h1 => ?_)
            · obtain ⟨k, rfl⟩ : ∃ k, x = some k := by cases x with | none => exact absurd rfl h1 | some k => exact ⟨k, rfl⟩
              exact tail k nb sg G B hfx.1 hnb hsg ⟨some k, hfx, rfl⟩ _ _ w ls hl
            · have hx0 : x = none := px_ix_none (fun k hk => by subst hk; exact Nat.lt_of_lt_of_le hfx.1 (by omega)) h1
              subst hx0
              refine lv_aload_n hx hb dX1_piece_84 rfl (lv_at hl 2 rfl) ?_
              refine lv_iload_n hx hb dX1_piece_85 rfl (lv_at hl 3 rfl) ?_
              refine lv_iload_n hx hb dX1_piece_86 rfl (lv_at hl 4 rfl) ?_
              refine lv_iload_n hx hb dX1_piece_87 rfl (lv_at hl 5 rfl) ?_
              refine lv_iload hx hb dX1_piece_88 (lv_at hl 7 rfl) ?_
              refine pw_goi0 w.all (va_runV (C := RP) (As := [.int a, .int b, .int d3, .int wl]) (rest := []) S (px_c_beginOnBench l D a0 af ab o ar cI cO fd 0 sg nb lw aw tm G B _ hnb hsg a b d3 wl) (pw_cw (n := 4) S eP_48 iP_beginOnBench sP_beginOnBench iniP kP_beginOnBench rfl rfl (by decide +kernel) ⟨by decide, by decide⟩) ⟨pw_blind, va_recv w.1 w.2.1 (ci := cP) (q0 := 0) rfl rfl, pw_pre w.all w.1⟩ rfl rfl hl.1 rfl (lv_room (Nat.le_of_ble_eq_true rfl)) dX1_piece_90 ⟨Nat.zero_le _, Nat.zero_le _⟩) (fun r _ H locs hp w => ?_)
              have w := w.one
              have w : pw_S D (px_T cI cO) A (px_W a0 af ab o ar cI cO fd 0 ((px_mk sg nb).1) ((px_mk sg nb).2 + 1) lw aw tm (va_up G ((px_mk sg nb).1 (px_mk sg nb).2) (a, b, d3, wl, wl, nI tm)) (va_up B ((px_mk sg nb).1 (px_mk sg nb).2) (px_fl (B ((px_mk sg nb).1 (px_mk sg nb).2)) (-1) 1480))) s _ _ := w
              subst hp
              refine lv_istore (lv' := [(7, .int (nI (px_mk sg nb).2)), (6, .int (nI nf)), (0, .ref a0), (1, .int a), (2, .int b), (3, .int d3), (4, .int fm), (5, .int wl)]) hx hb dX1_piece_93 hl (by decide) rfl (fun ls hl => ?_)
              exact tail (px_mk sg nb).2 ((px_mk sg nb).2 + 1) (px_mk sg nb).1 _ _ (Nat.lt_succ_self _) (px_mk_le hnb) (px_mk_lt hnb hsg) ⟨none, hfx, rfl⟩ _ _ w ls hl
          · have h9 := fun q => h2 (Int32.le_iff_toInt_le.mpr q)
            have h8 : (wl - nI nf).toInt = (wh : Int) - nf := by rw [ewl]; exact pk_sub_toInt (by omega) (by omega)
            exact pw_throw (names := exN) S hl9 w (by decide +kernel) (by decide +kernel) eP_35 ini_IS tx42 at35_39_ok gd35_39_ok hl.1 dX1_piece_48 dX1_piece_51 dX1_piece_52 dX1_piece_54 dX1_piece_57 htb (by decide) (by decide) (by decide) (by decide) hlk (Or.inr ⟨rfl, ⟨hw1, hw2, hf0⟩, fun q => h9 (by rw [h8]; omega)⟩) (by decide) (by decide)
      · have h9 := fun q => h3 (Int32.le_iff_toInt_le.mpr q)
        exact pw_throw (names := exN) S hl9 w (by decide +kernel) (by decide +kernel) eP_24 ini_IA tx40 at24_28_ok gd24_28_ok hl.1 dX1_piece_19 dX1_piece_22 dX1_piece_23 dX1_piece_25 dX1_piece_28 htb (by decide) (by decide) (by decide) (by decide) hlk (Or.inl ⟨rfl, fun q => h9 (by have : (0 : Int32).toInt = 0 := rfl; omega)⟩) (by decide) (by decide)
end
section
set_option maxHeartbeats 4000000 in
set_option maxRecDepth 100000 in
/-- PieceBench() -/
theorem px_c_init (l : Launch) (D : va_G) (a0 sz : Nat) : pw_Mv l yX1_init cX1_init 2 ({ frames := 2, cells := 12, slots := 8919, locals := 120 }) D [] [.ref a0] [(a0, .inr (cP, [.null, .int 0, .null, .int 0, .null, .int 0, .int 0]))] sz (σ := px_H) (fun _ => True) (fun h => px_N a0 h) (fun h => px_T h.2.2.2.2.1 h.2.2.2.2.2) 12 8919 := by
  refine pw_openV (by decide) (Nat.le_of_ble_eq_true rfl) ?_
  intro p e s m below meth c ls S hr hlk hnm hl hsz w
  obtain ⟨hx, hb, hml, hown, hts⟩ := id S
  have hl : lv_has ls 2 [(0, .ref a0)] := hl
  generalize va_A [(a0, .inr (cP, [.null, .int 0, .null, .int 0, .null, .int 0, .int 0]))] sz = A at w ⊢
  refine lv_aload_n hx hb dX1_init_0 rfl (lv_at hl 0 rfl) ?_
  refine pw_oinit S eP_1 iO kO hl.1 (by decide) (by decide) dX1_init_1 ?_
  refine lv_aload_n hx hb dX1_init_4 rfl (lv_at hl 0 rfl) ?_
  refine lv_sipush (v := 1480) hx hb dX1_init_5 (by decide) ?_
  refine pw_newi S w arI (n := 1480) (N := 1480) (by decide) (by decide) (by decide) (by decide) (by decide) dX1_init_8 (fun af cI H w => ?_)
  have w : pw_S D [(cI, .int)] A [(a0, .inr (cP, [.null, .int 0, .null, .int 0, .null, .int 0, .int 0])), (af, .inl (cI, 1480, .inl (fun _ => 0)))] s _ _ := w
  refine pw_putF S w px_FP 0 (fs := [.null, .int 0, .null, .int 0, .null, .int 0, .int 0]) rfl 0 (by decide) eP_9 rfl hnm rfl (v := .ref af) rfl rfl (Nat.le_of_ble_eq_true rfl) dX1_init_10 (fun H locs w => ?_)
  have w : pw_S D [(cI, .int)] A [(a0, .inr (cP, [.ref af, .int 0, .null, .int 0, .null, .int 0, .int 0])), (af, .inl (cI, 1480, .inl (fun _ => 0)))] s _ _ := w
  refine lv_aload_n hx hb dX1_init_13 rfl (lv_at hl 0 rfl) ?_
  refine lv_iconst (v := 4) hx hb dX1_init_14 (by decide) ?_
  refine pw_newr S w eP_13 (w.2.2.2.2.2.ao aoD) (n := 4) (N := 4) (by decide) (by decide) (by decide) (by decide) (by decide) dX1_init_15 (fun ab cO H w => ?_)
  have w : pw_S D (px_T cI cO) A [(a0, .inr (cP, [.ref af, .int 0, .null, .int 0, .null, .int 0, .int 0])), (af, .inl (cI, 1480, .inl (fun _ => 0))), (ab, .inl (cO, 4, .inr (.inr (.inr (.inr (fun _ => none))))))] s _ _ := w
  refine pw_putF S w px_FP 0 (fs := [.ref af, .int 0, .null, .int 0, .null, .int 0, .int 0]) rfl 2 (by decide) eP_15 rfl hnm rfl (v := .ref ab) rfl rfl (Nat.le_of_ble_eq_true rfl) dX1_init_18 (fun H locs w => ?_)
  have w : pw_S D (px_T cI cO) A [(a0, .inr (cP, [.ref af, .int 0, .ref ab, .int 0, .null, .int 0, .int 0])), (af, .inl (cI, 1480, .inl (fun _ => 0))), (ab, .inl (cO, 4, .inr (.inr (.inr (.inr (fun _ => none))))))] s _ _ := w
  refine lv_iconst (v := 0) hx hb dX1_init_21 (by decide) ?_
  refine lv_istore_n (lv' := [(1, .int 0), (0, .ref a0)]) hx hb dX1_init_22 rfl hl (by decide) rfl (fun ls hl => ?_)
  refine lv_iload_n hx hb dX1_init_23 rfl (lv_at hl 0 rfl) ?_
  refine lv_iconst (v := 4) hx hb dX1_init_24 (by decide) ?_
  refine lv_icmp_ge (tgt := 47) hx hb dX1_init_25 (by decide) (fun h9 => absurd h9 (by decide)) (fun _ => ?_)
  refine lv_aload_n hx hb dX1_init_28 rfl (lv_at hl 1 rfl) ?_
  refine pw_get S w px_FP 0 rfl 2 (by decide) eP_15 (v := .ref ab) rfl dX1_init_29 ?_
  refine lv_iload_n hx hb dX1_init_32 rfl (lv_at hl 0 rfl) ?_
  refine pw_new S w px_FD eP_13 nwD iniD (fs := [.null, .int 0, .int 0, .int 0, .int 0, .int 0, .int 0]) (fun j hj => by rcases (show j = 0 ∨ j = 1 ∨ j = 2 ∨ j = 3 ∨ j = 4 ∨ j = 5 ∨ j = 6 by omega) with rfl | rfl | rfl | rfl | rfl | rfl | rfl <;> rfl) (by decide) (by decide) dX1_init_33 (fun q0 H w => ?_)
  refine lv_dup hx hb dX1_init_36 rfl ?_
  have w : pw_S D (px_T cI cO) A ([(a0, .inr (cP, [.ref af, .int 0, .ref ab, .int 0, .null, .int 0, .int 0])), (af, .inl (cI, 1480, .inl (fun _ => 0))), (ab, .inl (cO, 4, .inr (.inr (.inr (.inr (fun _ => none))))))] ++ ([(q0, .inr (cD, [.null, .int 0, .int 0, .int 0, .int 0, .int 0, .int 0]))] ++ [])) s _ _ := w
  refine pw_gov w (va_runIN (As := []) (rest := [.ref q0, .int 0, .ref ab]) S (px_c_dinit l D q0 _) ⟨pw_cn (n := 0) S w.2.2.2.2.2 eP_19n iniD kD_init rfl rfl (by decide +kernel) ⟨by decide, by decide⟩, rfl, S.2.2.2.2 _ iD_init⟩ ⟨pw_blind, pw_pre w (w.1.sub (tys' := []) [] rfl)⟩ rfl rfl hl.1 rfl (lv_room (Nat.le_of_ble_eq_true rfl)) dX1_init_37 ⟨by decide, by decide⟩) (fun u H locs _ hK w => ?_)
  obtain ⟨b0, cA⟩ := u
  have e9 : cI = cA := pw_cI w.1 hK (i := 0) (j := 0) rfl rfl
  subst e9
  have w : pw_S D (px_T cI cO) A [(a0, .inr (cP, [.ref af, .int 0, .ref ab, .int 0, .null, .int 0, .int 0])), (af, .inl (cI, 1480, .inl (fun _ => 0))), (ab, .inl (cO, 4, .inr (.inr (.inr (.inr (fun _ => none)))))), (q0, .inr (cD, px_fs b0 (0, 0, 0, 0, 0, 0))), (b0, .inl (cI, 1480, .inl (fun _ => 0)))] s _ _ := w
  refine pw_aast S w 2 1 3 cD (r := cDr) rfl rfl rfl rfl (j := 0) (by decide) (by decide) dX1_init_40 (fun H locs w => ?_)
  have w : pw_S D (px_T cI cO) A [(a0, .inr (cP, [.ref af, .int 0, .ref ab, .int 0, .null, .int 0, .int 0])), (af, .inl (cI, 1480, .inl (fun _ => 0))), (ab, .inl (cO, 4, .inr (.inr (.inr (.inr (va_up (fun _ => none) 0 (some q0))))))), (q0, .inr (cD, px_fs b0 (0, 0, 0, 0, 0, 0))), (b0, .inl (cI, 1480, .inl (fun _ => 0)))] s _ _ := w
  refine lv_iinc (v := 1) (lv' := [(1, .int 1), (0, .ref a0)]) hx hb dX1_init_41 hl (k := 0) rfl (by decide) (by decide) rfl (fun ls hl => ?_)
  refine lv_goto (tgt := 23) hx hb dX1_init_44 (by decide) ?_
  refine lv_iload_n hx hb dX1_init_23 rfl (lv_at hl 0 rfl) ?_
  refine lv_iconst (v := 4) hx hb dX1_init_24 (by decide) ?_
  refine lv_icmp_ge (tgt := 47) hx hb dX1_init_25 (by decide) (fun h9 => absurd h9 (by decide)) (fun _ => ?_)
  refine lv_aload_n hx hb dX1_init_28 rfl (lv_at hl 1 rfl) ?_
  refine pw_get S w px_FP 0 rfl 2 (by decide) eP_15 (v := .ref ab) rfl dX1_init_29 ?_
  refine lv_iload_n hx hb dX1_init_32 rfl (lv_at hl 0 rfl) ?_
  refine pw_new S w px_FD eP_13 nwD iniD (fs := [.null, .int 0, .int 0, .int 0, .int 0, .int 0, .int 0]) (fun j hj => by rcases (show j = 0 ∨ j = 1 ∨ j = 2 ∨ j = 3 ∨ j = 4 ∨ j = 5 ∨ j = 6 by omega) with rfl | rfl | rfl | rfl | rfl | rfl | rfl <;> rfl) (by decide) (by decide) dX1_init_33 (fun q1 H w => ?_)
  refine lv_dup hx hb dX1_init_36 rfl ?_
  have w : pw_S D (px_T cI cO) A ([(a0, .inr (cP, [.ref af, .int 0, .ref ab, .int 0, .null, .int 0, .int 0])), (af, .inl (cI, 1480, .inl (fun _ => 0))), (ab, .inl (cO, 4, .inr (.inr (.inr (.inr (va_up (fun _ => none) 0 (some q0))))))), (q0, .inr (cD, px_fs b0 (0, 0, 0, 0, 0, 0))), (b0, .inl (cI, 1480, .inl (fun _ => 0)))] ++ ([(q1, .inr (cD, [.null, .int 0, .int 0, .int 0, .int 0, .int 0, .int 0]))] ++ [])) s _ _ := w
  refine pw_gov w (va_runIN (As := []) (rest := [.ref q1, .int 1, .ref ab]) S (px_c_dinit l D q1 _) ⟨pw_cn (n := 0) S w.2.2.2.2.2 eP_19n iniD kD_init rfl rfl (by decide +kernel) ⟨by decide, by decide⟩, rfl, S.2.2.2.2 _ iD_init⟩ ⟨pw_blind, pw_pre w (w.1.sub (tys' := []) [] rfl)⟩ rfl rfl hl.1 rfl (lv_room (Nat.le_of_ble_eq_true rfl)) dX1_init_37 ⟨by decide, by decide⟩) (fun u H locs _ hK w => ?_)
  obtain ⟨b1, cA⟩ := u
  have e9 : cI = cA := pw_cI w.1 hK (i := 0) (j := 0) rfl rfl
  subst e9
  have w : pw_S D (px_T cI cO) A [(a0, .inr (cP, [.ref af, .int 0, .ref ab, .int 0, .null, .int 0, .int 0])), (af, .inl (cI, 1480, .inl (fun _ => 0))), (ab, .inl (cO, 4, .inr (.inr (.inr (.inr (va_up (fun _ => none) 0 (some q0))))))), (q0, .inr (cD, px_fs b0 (0, 0, 0, 0, 0, 0))), (b0, .inl (cI, 1480, .inl (fun _ => 0))), (q1, .inr (cD, px_fs b1 (0, 0, 0, 0, 0, 0))), (b1, .inl (cI, 1480, .inl (fun _ => 0)))] s _ _ := w
  refine pw_aast S w 2 1 5 cD (r := cDr) rfl rfl rfl rfl (j := 1) (by decide) (by decide) dX1_init_40 (fun H locs w => ?_)
  have w : pw_S D (px_T cI cO) A [(a0, .inr (cP, [.ref af, .int 0, .ref ab, .int 0, .null, .int 0, .int 0])), (af, .inl (cI, 1480, .inl (fun _ => 0))), (ab, .inl (cO, 4, .inr (.inr (.inr (.inr (va_up (va_up (fun _ => none) 0 (some q0)) 1 (some q1))))))), (q0, .inr (cD, px_fs b0 (0, 0, 0, 0, 0, 0))), (b0, .inl (cI, 1480, .inl (fun _ => 0))), (q1, .inr (cD, px_fs b1 (0, 0, 0, 0, 0, 0))), (b1, .inl (cI, 1480, .inl (fun _ => 0)))] s _ _ := w
  refine lv_iinc (v := 2) (lv' := [(1, .int 2), (0, .ref a0)]) hx hb dX1_init_41 hl (k := 0) rfl (by decide) (by decide) rfl (fun ls hl => ?_)
  refine lv_goto (tgt := 23) hx hb dX1_init_44 (by decide) ?_
  refine lv_iload_n hx hb dX1_init_23 rfl (lv_at hl 0 rfl) ?_
  refine lv_iconst (v := 4) hx hb dX1_init_24 (by decide) ?_
  refine lv_icmp_ge (tgt := 47) hx hb dX1_init_25 (by decide) (fun h9 => absurd h9 (by decide)) (fun _ => ?_)
  refine lv_aload_n hx hb dX1_init_28 rfl (lv_at hl 1 rfl) ?_
  refine pw_get S w px_FP 0 rfl 2 (by decide) eP_15 (v := .ref ab) rfl dX1_init_29 ?_
  refine lv_iload_n hx hb dX1_init_32 rfl (lv_at hl 0 rfl) ?_
  refine pw_new S w px_FD eP_13 nwD iniD (fs := [.null, .int 0, .int 0, .int 0, .int 0, .int 0, .int 0]) (fun j hj => by rcases (show j = 0 ∨ j = 1 ∨ j = 2 ∨ j = 3 ∨ j = 4 ∨ j = 5 ∨ j = 6 by omega) with rfl | rfl | rfl | rfl | rfl | rfl | rfl <;> rfl) (by decide) (by decide) dX1_init_33 (fun q2 H w => ?_)
  refine lv_dup hx hb dX1_init_36 rfl ?_
  have w : pw_S D (px_T cI cO) A ([(a0, .inr (cP, [.ref af, .int 0, .ref ab, .int 0, .null, .int 0, .int 0])), (af, .inl (cI, 1480, .inl (fun _ => 0))), (ab, .inl (cO, 4, .inr (.inr (.inr (.inr (va_up (va_up (fun _ => none) 0 (some q0)) 1 (some q1))))))), (q0, .inr (cD, px_fs b0 (0, 0, 0, 0, 0, 0))), (b0, .inl (cI, 1480, .inl (fun _ => 0))), (q1, .inr (cD, px_fs b1 (0, 0, 0, 0, 0, 0))), (b1, .inl (cI, 1480, .inl (fun _ => 0)))] ++ ([(q2, .inr (cD, [.null, .int 0, .int 0, .int 0, .int 0, .int 0, .int 0]))] ++ [])) s _ _ := w
  refine pw_gov w (va_runIN (As := []) (rest := [.ref q2, .int 2, .ref ab]) S (px_c_dinit l D q2 _) ⟨pw_cn (n := 0) S w.2.2.2.2.2 eP_19n iniD kD_init rfl rfl (by decide +kernel) ⟨by decide, by decide⟩, rfl, S.2.2.2.2 _ iD_init⟩ ⟨pw_blind, pw_pre w (w.1.sub (tys' := []) [] rfl)⟩ rfl rfl hl.1 rfl (lv_room (Nat.le_of_ble_eq_true rfl)) dX1_init_37 ⟨by decide, by decide⟩) (fun u H locs _ hK w => ?_)
  obtain ⟨b2, cA⟩ := u
  have e9 : cI = cA := pw_cI w.1 hK (i := 0) (j := 0) rfl rfl
  subst e9
  have w : pw_S D (px_T cI cO) A [(a0, .inr (cP, [.ref af, .int 0, .ref ab, .int 0, .null, .int 0, .int 0])), (af, .inl (cI, 1480, .inl (fun _ => 0))), (ab, .inl (cO, 4, .inr (.inr (.inr (.inr (va_up (va_up (fun _ => none) 0 (some q0)) 1 (some q1))))))), (q0, .inr (cD, px_fs b0 (0, 0, 0, 0, 0, 0))), (b0, .inl (cI, 1480, .inl (fun _ => 0))), (q1, .inr (cD, px_fs b1 (0, 0, 0, 0, 0, 0))), (b1, .inl (cI, 1480, .inl (fun _ => 0))), (q2, .inr (cD, px_fs b2 (0, 0, 0, 0, 0, 0))), (b2, .inl (cI, 1480, .inl (fun _ => 0)))] s _ _ := w
  refine pw_aast S w 2 1 7 cD (r := cDr) rfl rfl rfl rfl (j := 2) (by decide) (by decide) dX1_init_40 (fun H locs w => ?_)
  have w : pw_S D (px_T cI cO) A [(a0, .inr (cP, [.ref af, .int 0, .ref ab, .int 0, .null, .int 0, .int 0])), (af, .inl (cI, 1480, .inl (fun _ => 0))), (ab, .inl (cO, 4, .inr (.inr (.inr (.inr (va_up (va_up (va_up (fun _ => none) 0 (some q0)) 1 (some q1)) 2 (some q2))))))), (q0, .inr (cD, px_fs b0 (0, 0, 0, 0, 0, 0))), (b0, .inl (cI, 1480, .inl (fun _ => 0))), (q1, .inr (cD, px_fs b1 (0, 0, 0, 0, 0, 0))), (b1, .inl (cI, 1480, .inl (fun _ => 0))), (q2, .inr (cD, px_fs b2 (0, 0, 0, 0, 0, 0))), (b2, .inl (cI, 1480, .inl (fun _ => 0)))] s _ _ := w
  refine lv_iinc (v := 3) (lv' := [(1, .int 3), (0, .ref a0)]) hx hb dX1_init_41 hl (k := 0) rfl (by decide) (by decide) rfl (fun ls hl => ?_)
  refine lv_goto (tgt := 23) hx hb dX1_init_44 (by decide) ?_
  refine lv_iload_n hx hb dX1_init_23 rfl (lv_at hl 0 rfl) ?_
  refine lv_iconst (v := 4) hx hb dX1_init_24 (by decide) ?_
  refine lv_icmp_ge (tgt := 47) hx hb dX1_init_25 (by decide) (fun h9 => absurd h9 (by decide)) (fun _ => ?_)
  refine lv_aload_n hx hb dX1_init_28 rfl (lv_at hl 1 rfl) ?_
  refine pw_get S w px_FP 0 rfl 2 (by decide) eP_15 (v := .ref ab) rfl dX1_init_29 ?_
  refine lv_iload_n hx hb dX1_init_32 rfl (lv_at hl 0 rfl) ?_
  refine pw_new S w px_FD eP_13 nwD iniD (fs := [.null, .int 0, .int 0, .int 0, .int 0, .int 0, .int 0]) (fun j hj => by rcases (show j = 0 ∨ j = 1 ∨ j = 2 ∨ j = 3 ∨ j = 4 ∨ j = 5 ∨ j = 6 by omega) with rfl | rfl | rfl | rfl | rfl | rfl | rfl <;> rfl) (by decide) (by decide) dX1_init_33 (fun q3 H w => ?_)
  refine lv_dup hx hb dX1_init_36 rfl ?_
  have w : pw_S D (px_T cI cO) A ([(a0, .inr (cP, [.ref af, .int 0, .ref ab, .int 0, .null, .int 0, .int 0])), (af, .inl (cI, 1480, .inl (fun _ => 0))), (ab, .inl (cO, 4, .inr (.inr (.inr (.inr (va_up (va_up (va_up (fun _ => none) 0 (some q0)) 1 (some q1)) 2 (some q2))))))), (q0, .inr (cD, px_fs b0 (0, 0, 0, 0, 0, 0))), (b0, .inl (cI, 1480, .inl (fun _ => 0))), (q1, .inr (cD, px_fs b1 (0, 0, 0, 0, 0, 0))), (b1, .inl (cI, 1480, .inl (fun _ => 0))), (q2, .inr (cD, px_fs b2 (0, 0, 0, 0, 0, 0))), (b2, .inl (cI, 1480, .inl (fun _ => 0)))] ++ ([(q3, .inr (cD, [.null, .int 0, .int 0, .int 0, .int 0, .int 0, .int 0]))] ++ [])) s _ _ := w
  refine pw_gov w (va_runIN (As := []) (rest := [.ref q3, .int 3, .ref ab]) S (px_c_dinit l D q3 _) ⟨pw_cn (n := 0) S w.2.2.2.2.2 eP_19n iniD kD_init rfl rfl (by decide +kernel) ⟨by decide, by decide⟩, rfl, S.2.2.2.2 _ iD_init⟩ ⟨pw_blind, pw_pre w (w.1.sub (tys' := []) [] rfl)⟩ rfl rfl hl.1 rfl (lv_room (Nat.le_of_ble_eq_true rfl)) dX1_init_37 ⟨by decide, by decide⟩) (fun u H locs _ hK w => ?_)
  obtain ⟨b3, cA⟩ := u
  have e9 : cI = cA := pw_cI w.1 hK (i := 0) (j := 0) rfl rfl
  subst e9
  have w : pw_S D (px_T cI cO) A [(a0, .inr (cP, [.ref af, .int 0, .ref ab, .int 0, .null, .int 0, .int 0])), (af, .inl (cI, 1480, .inl (fun _ => 0))), (ab, .inl (cO, 4, .inr (.inr (.inr (.inr (va_up (va_up (va_up (fun _ => none) 0 (some q0)) 1 (some q1)) 2 (some q2))))))), (q0, .inr (cD, px_fs b0 (0, 0, 0, 0, 0, 0))), (b0, .inl (cI, 1480, .inl (fun _ => 0))), (q1, .inr (cD, px_fs b1 (0, 0, 0, 0, 0, 0))), (b1, .inl (cI, 1480, .inl (fun _ => 0))), (q2, .inr (cD, px_fs b2 (0, 0, 0, 0, 0, 0))), (b2, .inl (cI, 1480, .inl (fun _ => 0))), (q3, .inr (cD, px_fs b3 (0, 0, 0, 0, 0, 0))), (b3, .inl (cI, 1480, .inl (fun _ => 0)))] s _ _ := w
  refine pw_aast S w 2 1 9 cD (r := cDr) rfl rfl rfl rfl (j := 3) (by decide) (by decide) dX1_init_40 (fun H locs w => ?_)
  have w : pw_S D (px_T cI cO) A [(a0, .inr (cP, [.ref af, .int 0, .ref ab, .int 0, .null, .int 0, .int 0])), (af, .inl (cI, 1480, .inl (fun _ => 0))), (ab, .inl (cO, 4, .inr (.inr (.inr (.inr (va_up (va_up (va_up (va_up (fun _ => none) 0 (some q0)) 1 (some q1)) 2 (some q2)) 3 (some q3))))))), (q0, .inr (cD, px_fs b0 (0, 0, 0, 0, 0, 0))), (b0, .inl (cI, 1480, .inl (fun _ => 0))), (q1, .inr (cD, px_fs b1 (0, 0, 0, 0, 0, 0))), (b1, .inl (cI, 1480, .inl (fun _ => 0))), (q2, .inr (cD, px_fs b2 (0, 0, 0, 0, 0, 0))), (b2, .inl (cI, 1480, .inl (fun _ => 0))), (q3, .inr (cD, px_fs b3 (0, 0, 0, 0, 0, 0))), (b3, .inl (cI, 1480, .inl (fun _ => 0)))] s _ _ := w
  refine lv_iinc (v := 4) (lv' := [(1, .int 4), (0, .ref a0)]) hx hb dX1_init_41 hl (k := 0) rfl (by decide) (by decide) rfl (fun ls hl => ?_)
  refine lv_goto (tgt := 23) hx hb dX1_init_44 (by decide) ?_
  refine lv_iload_n hx hb dX1_init_23 rfl (lv_at hl 0 rfl) ?_
  refine lv_iconst (v := 4) hx hb dX1_init_24 (by decide) ?_
  refine lv_icmp_ge (tgt := 47) hx hb dX1_init_25 (by decide) (fun _ => ?_) (fun h9 => absurd (by decide) h9)
  refine lv_aload_n hx hb dX1_init_47 rfl (lv_at hl 1 rfl) ?_
  refine pw_new S w px_FD eP_13 nwD iniD (fs := [.null, .int 0, .int 0, .int 0, .int 0, .int 0, .int 0]) (fun j hj => by rcases (show j = 0 ∨ j = 1 ∨ j = 2 ∨ j = 3 ∨ j = 4 ∨ j = 5 ∨ j = 6 by omega) with rfl | rfl | rfl | rfl | rfl | rfl | rfl <;> rfl) (by decide) (by decide) dX1_init_48 (fun q4 H w => ?_)
  refine lv_dup hx hb dX1_init_51 rfl ?_
  have w : pw_S D (px_T cI cO) A ([(a0, .inr (cP, [.ref af, .int 0, .ref ab, .int 0, .null, .int 0, .int 0])), (af, .inl (cI, 1480, .inl (fun _ => 0))), (ab, .inl (cO, 4, .inr (.inr (.inr (.inr (va_up (va_up (va_up (va_up (fun _ => none) 0 (some q0)) 1 (some q1)) 2 (some q2)) 3 (some q3))))))), (q0, .inr (cD, px_fs b0 (0, 0, 0, 0, 0, 0))), (b0, .inl (cI, 1480, .inl (fun _ => 0))), (q1, .inr (cD, px_fs b1 (0, 0, 0, 0, 0, 0))), (b1, .inl (cI, 1480, .inl (fun _ => 0))), (q2, .inr (cD, px_fs b2 (0, 0, 0, 0, 0, 0))), (b2, .inl (cI, 1480, .inl (fun _ => 0))), (q3, .inr (cD, px_fs b3 (0, 0, 0, 0, 0, 0))), (b3, .inl (cI, 1480, .inl (fun _ => 0)))] ++ ([(q4, .inr (cD, [.null, .int 0, .int 0, .int 0, .int 0, .int 0, .int 0]))] ++ [])) s _ _ := w
  refine pw_gov w (va_runIN (As := []) (rest := [.ref q4, .ref a0]) S (px_c_dinit l D q4 _) ⟨pw_cn (n := 0) S w.2.2.2.2.2 eP_19n iniD kD_init rfl rfl (by decide +kernel) ⟨by decide, by decide⟩, rfl, S.2.2.2.2 _ iD_init⟩ ⟨pw_blind, pw_pre w (w.1.sub (tys' := []) [] rfl)⟩ rfl rfl hl.1 rfl (lv_room (Nat.le_of_ble_eq_true rfl)) dX1_init_52 ⟨by decide, by decide⟩) (fun u H locs _ hK w => ?_)
  obtain ⟨b4, cA⟩ := u
  have e9 : cI = cA := pw_cI w.1 hK (i := 0) (j := 0) rfl rfl
  subst e9
  have w : pw_S D (px_T cI cO) A [(a0, .inr (cP, [.ref af, .int 0, .ref ab, .int 0, .null, .int 0, .int 0])), (af, .inl (cI, 1480, .inl (fun _ => 0))), (ab, .inl (cO, 4, .inr (.inr (.inr (.inr (va_up (va_up (va_up (va_up (fun _ => none) 0 (some q0)) 1 (some q1)) 2 (some q2)) 3 (some q3))))))), (q0, .inr (cD, px_fs b0 (0, 0, 0, 0, 0, 0))), (b0, .inl (cI, 1480, .inl (fun _ => 0))), (q1, .inr (cD, px_fs b1 (0, 0, 0, 0, 0, 0))), (b1, .inl (cI, 1480, .inl (fun _ => 0))), (q2, .inr (cD, px_fs b2 (0, 0, 0, 0, 0, 0))), (b2, .inl (cI, 1480, .inl (fun _ => 0))), (q3, .inr (cD, px_fs b3 (0, 0, 0, 0, 0, 0))), (b3, .inl (cI, 1480, .inl (fun _ => 0))), (q4, .inr (cD, px_fs b4 (0, 0, 0, 0, 0, 0))), (b4, .inl (cI, 1480, .inl (fun _ => 0)))] s _ _ := w
  refine pw_put S w px_FP 0 (fs := [.ref af, .int 0, .ref ab, .int 0, .null, .int 0, .int 0]) rfl 4 (by decide) eP_20 rfl (v := .ref q4) rfl rfl (Nat.le_of_ble_eq_true rfl) dX1_init_55 (fun H locs w => ?_)
  have w : pw_S D (px_T cI cO) A [(a0, .inr (cP, [.ref af, .int 0, .ref ab, .int 0, .ref q4, .int 0, .int 0])), (af, .inl (cI, 1480, .inl (fun _ => 0))), (ab, .inl (cO, 4, .inr (.inr (.inr (.inr (va_up (va_up (va_up (va_up (fun _ => none) 0 (some q0)) 1 (some q1)) 2 (some q2)) 3 (some q3))))))), (q0, .inr (cD, px_fs b0 (0, 0, 0, 0, 0, 0))), (b0, .inl (cI, 1480, .inl (fun _ => 0))), (q1, .inr (cD, px_fs b1 (0, 0, 0, 0, 0, 0))), (b1, .inl (cI, 1480, .inl (fun _ => 0))), (q2, .inr (cD, px_fs b2 (0, 0, 0, 0, 0, 0))), (b2, .inl (cI, 1480, .inl (fun _ => 0))), (q3, .inr (cD, px_fs b3 (0, 0, 0, 0, 0, 0))), (b3, .inl (cI, 1480, .inl (fun _ => 0))), (q4, .inr (cD, px_fs b4 (0, 0, 0, 0, 0, 0))), (b4, .inl (cI, 1480, .inl (fun _ => 0)))] s _ _ := w
  exact pw_retv S hr hlk (af, ab, fun i => [q0, q1, q2, q3, q4].getD i 0, fun i => [b0, b1, b2, b3, b4].getD i 0, cI, cO) (w.to (by rw [px_bf4 q0 q1 q2 q3 q4]; rfl)) trivial (by decide) (by decide) dX1_init_58
end
section
/-! the reference's state: one object and eight int arrays -/
def pm_W (m0 : Nat) (ad : Nat → Nat) (cI : ClassId) (cd : Int32) (mt mf : Nat) (fd : Nat → Int32) (ct : Nat) (sc gl nu si wh pl : Nat → Int32) (sm ms mg mn mk : Int32) (md : Nat → Int32) : va_W :=
  [(m0, .inr (cM, [.int cd, .int (nI mt), .int (nI mf), .ref (ad 0), .int (nI ct), .ref (ad 1), .ref (ad 2), .ref (ad 3), .ref (ad 4), .ref (ad 5), .ref (ad 6), .int sm, .int ms, .int mg, .int mn, .int mk, .ref (ad 7)])),
   (ad 0, .inl (cI, 1480, .inl fd)), (ad 1, .inl (cI, 5, .inl sc)), (ad 2, .inl (cI, 5, .inl gl)), (ad 3, .inl (cI, 5, .inl nu)), (ad 4, .inl (cI, 5, .inl si)), (ad 5, .inl (cI, 5, .inl wh)), (ad 6, .inl (cI, 7400, .inl pl)), (ad 7, .inl (cI, 1480, .inl md))]
/-- one place down, from k up to i -/
def pm_s1 (f : Nat → Int32) (k i : Nat) : Nat → Int32 := fun q => if k ≤ q ∧ q < i then f (q + 1) else f q
theorem pm_s1_0 (f : Nat → Int32) (k : Nat) : pm_s1 f k k = f := by
  funext q
  unfold pm_s1
  rw [if_neg (by omega)]
theorem pm_s1_s (f : Nat → Int32) {k i : Nat} (h : k ≤ i) : upd (pm_s1 f k i) i (pm_s1 f k i (i + 1)) = pm_s1 f k (i + 1) := by
  funext q
  have e : pm_s1 f k i (i + 1) = f (i + 1) := by unfold pm_s1; rw [if_neg (by omega)]
  rw [e]
  by_cases h1 : q = i
  · subst h1
    rw [pk_us]
    unfold pm_s1
    rw [if_pos (by omega)]
  · rw [pk_un h1]
    unfold pm_s1
    by_cases h2 : k ≤ q ∧ q < i
    · rw [if_pos h2, if_pos (by omega)]
    · rw [if_neg h2, if_neg (by omega)]
/-- 1480 places down, from lo up to hi -/
def pm_s2 (f : Nat → Int32) (lo hi : Nat) : Nat → Int32 := fun q => if lo ≤ q ∧ q < hi then f (q + 1480) else f q
theorem pm_s2_0 (f : Nat → Int32) (k : Nat) : pm_s2 f k k = f := by
  funext q
  unfold pm_s2
  rw [if_neg (by omega)]
theorem pm_s2_s (f : Nat → Int32) {lo hi : Nat} (h : lo ≤ hi) : upd (pm_s2 f lo hi) hi (pm_s2 f lo hi (hi + 1480)) = pm_s2 f lo (hi + 1) := by
  funext q
  have e : pm_s2 f lo hi (hi + 1480) = f (hi + 1480) := by unfold pm_s2; rw [if_neg (by omega)]
  rw [e]
  by_cases h1 : q = hi
  · subst h1
    rw [pk_us]
    unfold pm_s2
    rw [if_pos (by omega)]
  · rw [pk_un h1]
    unfold pm_s2
    by_cases h2 : lo ≤ q ∧ q < hi
    · rw [if_pos h2, if_pos (by omega)]
    · rw [if_neg h2, if_neg (by omega)]
theorem pm_ix (k i : Nat) : (1480 : Int32) * nI k + nI i = nI (1480 * k + i) := by
  rw [show (1480 : Int32) = nI 1480 from rfl, pk_mul, nI_add]
theorem pm_ix2 (k i : Nat) : ((1480 : Int32) * nI k + 1480) + nI i = nI (1480 * k + 1480 + i) := by
  rw [show (1480 : Int32) = nI 1480 from rfl, pk_mul, nI_add, nI_add]
theorem pm_ix3 (k f i : Nat) : ((1480 : Int32) * nI k + nI f) + nI i = nI (1480 * k + f + i) := by
  rw [show (1480 : Int32) = nI 1480 from rfl, pk_mul, nI_add, nI_add]
/-- how many of n are less than 0 -/
def pm_c (f : Nat → Int32) : Nat → Nat
  | 0 => 0
  | n + 1 => pm_c f n + (if f n < 0 then 1 else 0)
/-- whether place k is told by these three numbers -/
def pm_tl (sc gl nu : Nat → Int32) (k : Nat) (a b c : Int32) : Prop := sc k = a ∧ gl k = b ∧ nu k = c
/-- where the reference finds a datagram: the last place -/
def pm_fnd (sc gl nu : Nat → Int32) (ct : Nat) (a b c : Int32) (x : Option Nat) : Prop := match x with
  | some k => k < ct ∧ pm_tl sc gl nu k a b c ∧ ∀ q, k < q → q < ct → ¬ pm_tl sc gl nu q a b c
  | none => ∀ q, q < ct → ¬ pm_tl sc gl nu q a b c
theorem pm_fnd_y {sc gl nu : Nat → Int32} {k : Nat} {a b c : Int32} {x : Option Nat} (h : pm_tl sc gl nu k a b c) : pm_fnd sc gl nu (k + 1) a b c (some k) := ⟨Nat.lt_succ_self k, h, fun q h1 h2 => by omega⟩
theorem pm_fnd_n {sc gl nu : Nat → Int32} {k : Nat} {a b c : Int32} {x : Option Nat} (hx : pm_fnd sc gl nu k a b c x) (h : ¬ pm_tl sc gl nu k a b c) : pm_fnd sc gl nu (k + 1) a b c x := by
  cases x with
  | none =>
    intro q hq
    rcases Nat.lt_or_ge q k with z | z
    · exact hx q z
    · rw [show q = k by omega]; exact h
  | some j =>
    refine ⟨by have := hx.1; omega, hx.2.1, fun q h1 h2 => ?_⟩
    rcases Nat.lt_or_ge q k with z | z
    · exact hx.2.2 q h1 z
    · rw [show q = k by omega]; exact h
/-- a byte of a long, as the reference has it -/
def pm_by (x : Int64) (d : Int32) : Int32 := ((x >>> (d.toInt64 &&& 63)) &&& 255).toInt32
def pm_fd (fd : Nat → Int32) (nf : Nat) (x : Int64) (n : Nat) : Nat → Nat → Int32
  | 0 => fd
  | k + 1 => upd (pm_fd fd nf x n k) (nf + k) (pm_by x (8 * nI (n - 1 - k)))
/-- -1 from lo on, k places -/
def pm_fl (f : Nat → Int32) (lo k : Nat) : Nat → Int32 := fun i => if lo ≤ i ∧ i < lo + k then -1 else f i
theorem pm_fl_0 (f : Nat → Int32) (lo : Nat) : pm_fl f lo 0 = f := by
  funext q
  unfold pm_fl
  rw [if_neg (by omega)]
theorem pm_fl_s (f : Nat → Int32) (lo k : Nat) : upd (pm_fl f lo k) (lo + k) (-1) = pm_fl f lo (k + 1) := by
  funext q
  by_cases h1 : q = lo + k
  · subst h1
    rw [pk_us]
    unfold pm_fl
    rw [if_pos (by omega)]
  · rw [pk_un h1]
    unfold pm_fl
    by_cases h2 : lo ≤ q ∧ q < lo + k
    · rw [if_pos h2, if_pos (by omega)]
    · rw [if_neg h2, if_neg (by omega)]
/-- k places of pl from lo on, put to the start of md -/
def pm_cp (md pl : Nat → Int32) (lo k : Nat) : Nat → Int32 := fun i => if i < k then pl (lo + i) else md i
theorem pm_cp_0 (md pl : Nat → Int32) (lo : Nat) : pm_cp md pl lo 0 = md := by
  funext q
  unfold pm_cp
  rw [if_neg (by omega)]
theorem pm_cp_s (md pl : Nat → Int32) (lo k : Nat) : upd (pm_cp md pl lo k) k (pl (lo + k)) = pm_cp md pl lo (k + 1) := by
  funext q
  by_cases h1 : q = k
  · subst h1
    rw [pk_us]
    unfold pm_cp
    rw [if_pos (by omega)]
  · rw [pk_un h1]
    unfold pm_cp
    by_cases h2 : q < k
    · rw [if_pos h2, if_pos (by omega)]
    · rw [if_neg h2, if_neg (by omega)]
/-- what piece writes, k bytes on -/
def pm_tB (pl fd : Nat → Int32) (lo : Nat) : Nat → Nat → Int32
  | 0 => pl
  | k + 1 => upd (pm_tB pl fd lo k) (lo + k) (if pm_tB pl fd lo k (lo + k) < 0 then fd k else pm_tB pl fd lo k (lo + k))
/-- count, source, goal, number, since, whole, place, some, madeSource, madeGoal, madeNumber, madeCount, made -/
abbrev pm_R : Type := Nat × (Nat → Int32) × (Nat → Int32) × (Nat → Int32) × (Nat → Int32) × (Nat → Int32) × (Nat → Int32) × Int32 × Int32 × Int32 × Int32 × Int32 × (Nat → Int32)
/-- piece, once its datagram of wn bytes stands at place k -/
def pm_tk (fd : Nat → Int32) (mf fr k wn ct : Nat) (sc gl nu si wh pl : Nat → Int32) (sm ms mg mn mk : Int32) (md : Nat → Int32) : Int32 × pm_R :=
  if pm_c (fun i => pm_tB pl fd (1480 * k + fr) mf (1480 * k + i)) wn = 0 then
    (1, ct - 1, pm_s1 sc k (ct - 1), pm_s1 gl k (ct - 1), pm_s1 nu k (ct - 1), pm_s1 si k (ct - 1), pm_s1 wh k (ct - 1), pm_s2 (pm_tB pl fd (1480 * k + fr) mf) (1480 * k) (1480 * (ct - 1)), 1, sc k, gl k, nu k, wh k, pm_cp md (pm_tB pl fd (1480 * k + fr) mf) (1480 * k) wn)
  else (0, ct, sc, gl, nu, si, wh, pm_tB pl fd (1480 * k + fr) mf, sm, ms, mg, mn, mk, md)
/-- begin: room for one more, its numbers, -1 at its places -/
def pm_mk (ct : Nat) (f : Nat → Int32) : Nat → Int32 := if ct = 4 then pm_s1 f 0 3 else f
def pm_mk2 (ct : Nat) (f : Nat → Int32) : Nat → Int32 := if ct = 4 then pm_s2 f 0 4440 else f
def pm_mkn (ct : Nat) : Nat := if ct = 4 then 3 else ct
/-- given up: count, source, goal, number, since, whole, place, n places at most -/
def pm_gv (mt : Nat) : Nat → Nat → (Nat → Int32) → (Nat → Int32) → (Nat → Int32) → (Nat → Int32) → (Nat → Int32) → (Nat → Int32) → Nat × (Nat → Int32) × (Nat → Int32) × (Nat → Int32) × (Nat → Int32) × (Nat → Int32) × (Nat → Int32)
  | 0, ct, sc, gl, nu, si, wh, pl => (ct, sc, gl, nu, si, wh, pl)
  | n + 1, ct, sc, gl, nu, si, wh, pl => if 0 < ct ∧ ¬ nI mt - si 0 < 300 then pm_gv mt n (ct - 1) (pm_s1 sc 0 (ct - 1)) (pm_s1 gl 0 (ct - 1)) (pm_s1 nu 0 (ct - 1)) (pm_s1 si 0 (ct - 1)) (pm_s1 wh 0 (ct - 1)) (pm_s2 pl 0 (1480 * (ct - 1))) else (ct, sc, gl, nu, si, wh, pl)
theorem pm_nn {x : Int32} (h : 0 ≤ x) : ¬ x < 0 := Int32.not_lt.mpr h
theorem pm_ng {x : Int32} (h : ¬ 0 ≤ x) : x < 0 := Int32.not_le.mp h
def pm_hs (pl : Nat → Int32) (wn : Nat → Nat) (i : Int32) (x : Option Nat) : Prop := match x with
  | some k => ¬ i < 0 ∧ ¬ nI (wn k) ≤ i ∧ ¬ pl (1480 * k + i.toNatClampNeg) < 0
  | none => False
def pm_pc (fd : Nat → Int32) (mf fr w0 : Nat) (a b d3 wl : Int32) (mt ct : Nat) (sc gl nu si wh pl : Nat → Int32) (sm ms mg mn mk : Int32) (md : Nat → Int32) (x : Option Nat) : Int32 × pm_R := match x with
  | some k => if wh k = wl then pm_tk fd mf fr k w0 ct sc gl nu si wh pl sm ms mg mn mk md else (-1, ct, sc, gl, nu, si, wh, pl, sm, ms, mg, mn, mk, md)
  | none => pm_tk fd mf fr (pm_mkn ct) w0 (pm_mkn ct + 1) (upd (pm_mk ct sc) (pm_mkn ct) a) (upd (pm_mk ct gl) (pm_mkn ct) b) (upd (pm_mk ct nu) (pm_mkn ct) d3) (upd (pm_mk ct si) (pm_mkn ct) (nI mt)) (upd (pm_mk ct wh) (pm_mkn ct) wl) (pm_fl (pm_mk2 ct pl) (1480 * pm_mkn ct) 1480) sm ms mg mn mk md
theorem pm_mkn_le {ct : Nat} (h : ct ≤ 4) : pm_mkn ct ≤ 3 := by
  unfold pm_mkn
  split <;> omega
theorem pm_c_le (f : Nat → Int32) : ∀ n, pm_c f n ≤ n
  | 0 => Nat.le_refl 0
  | n + 1 => by
    have h := pm_c_le f n
    unfold pm_c
    split <;> omega
end
section
set_option maxHeartbeats 4000000 in
set_option maxRecDepth 100000 in
/-- the reference: thrown -/
theorem pm_c_thrown (l : Launch) (D : va_G) (m0 : Nat) (ad : Nat → Nat) (cI : ClassId) (cd : Int32) (mt : Nat) (mf : Nat) (fd : Nat → Int32) (ct : Nat) (sc : Nat → Int32) (gl : Nat → Int32) (nu : Nat → Int32) (si : Nat → Int32) (wh : Nat → Int32) (pl : Nat → Int32) (sm : Int32) (ms : Int32) (mg : Int32) (mn : Int32) (mk : Int32) (md : Nat → Int32) (sz : Nat)  : pw_Mi l yM_thrown cM_thrown 1 .int ({ frames := 0, cells := 0, slots := 0, locals := 0 }) D [(cI, .int)] [.ref m0] (pm_W m0 ad cI cd mt mf fd ct sc gl nu si wh pl sm ms mg mn mk md) sz (σ := Unit) (fun r _ => r = cd) (fun _ => pm_W m0 ad cI cd mt mf fd ct sc gl nu si wh pl sm ms mg mn mk md) 0 0 := by
  refine pw_openI (by decide) (Nat.le_of_ble_eq_true rfl) ?_
  intro p e s m below meth c ls S hr hlk hl hsz w
  obtain ⟨hx, hb, hml, hown, hts⟩ := id S
  have hl : lv_has ls 1 [(0, .ref m0)] := hl
  generalize va_A (pm_W m0 ad cI cd mt mf fd ct sc gl nu si wh pl sm ms mg mn mk md) sz = A at w ⊢
  refine lv_aload_n hx hb dM_thrown_0 rfl (lv_at hl 0 rfl) ?_
  refine pw_get S w pm_FM 0 rfl 0 (by decide) eM_34 (v := .int cd) rfl dM_thrown_1 ?_
  exact pw_reti S hr hlk () w rfl (by decide) (by decide) dM_thrown_4

set_option maxHeartbeats 4000000 in
set_option maxRecDepth 100000 in
/-- the reference: waiting -/
theorem pm_c_waiting (l : Launch) (D : va_G) (m0 : Nat) (ad : Nat → Nat) (cI : ClassId) (cd : Int32) (mt : Nat) (mf : Nat) (fd : Nat → Int32) (ct : Nat) (sc : Nat → Int32) (gl : Nat → Int32) (nu : Nat → Int32) (si : Nat → Int32) (wh : Nat → Int32) (pl : Nat → Int32) (sm : Int32) (ms : Int32) (mg : Int32) (mn : Int32) (mk : Int32) (md : Nat → Int32) (sz : Nat)  : pw_Mi l yM_waiting cM_waiting 1 .int ({ frames := 0, cells := 0, slots := 0, locals := 0 }) D [(cI, .int)] [.ref m0] (pm_W m0 ad cI cd mt mf fd ct sc gl nu si wh pl sm ms mg mn mk md) sz (σ := Unit) (fun r _ => r = nI ct) (fun _ => pm_W m0 ad cI 0 mt mf fd ct sc gl nu si wh pl sm ms mg mn mk md) 0 0 := by
  refine pw_openI (by decide) (Nat.le_of_ble_eq_true rfl) ?_
  intro p e s m below meth c ls S hr hlk hl hsz w
  obtain ⟨hx, hb, hml, hown, hts⟩ := id S
  have hl : lv_has ls 1 [(0, .ref m0)] := hl
  generalize va_A (pm_W m0 ad cI cd mt mf fd ct sc gl nu si wh pl sm ms mg mn mk md) sz = A at w ⊢
  refine lv_aload_n hx hb dM_waiting_0 rfl (lv_at hl 0 rfl) ?_
  refine lv_iconst (v := 0) hx hb dM_waiting_1 (by decide) ?_
  refine pw_put S w pm_FM 0 (fs := [.int cd, .int (nI mt), .int (nI mf), .ref (ad 0), .int (nI ct), .ref (ad 1), .ref (ad 2), .ref (ad 3), .ref (ad 4), .ref (ad 5), .ref (ad 6), .int sm, .int ms, .int mg, .int mn, .int mk, .ref (ad 7)]) rfl 0 (by decide) eM_34 rfl (v := .int 0) rfl rfl (Nat.le_of_ble_eq_true rfl) dM_waiting_2 (fun H locs w => ?_)
  have w : pw_S D [(cI, .int)] A (pm_W m0 ad cI 0 mt mf fd ct sc gl nu si wh pl sm ms mg mn mk md) s _ _ := w
  refine lv_aload_n hx hb dM_waiting_5 rfl (lv_at hl 0 rfl) ?_
  refine pw_get S w pm_FM 0 rfl 4 (by decide) eM_43 (v := .int (nI ct)) rfl dM_waiting_6 ?_
  exact pw_reti S hr hlk () w rfl (by decide) (by decide) dM_waiting_9

set_option maxHeartbeats 4000000 in
set_option maxRecDepth 100000 in
/-- the reference: find -/
theorem pm_c_find (l : Launch) (D : va_G) (m0 : Nat) (ad : Nat → Nat) (cI : ClassId) (cd : Int32) (mt : Nat) (mf : Nat) (fd : Nat → Int32) (ct : Nat) (sc : Nat → Int32) (gl : Nat → Int32) (nu : Nat → Int32) (si : Nat → Int32) (wh : Nat → Int32) (pl : Nat → Int32) (sm : Int32) (ms : Int32) (mg : Int32) (mn : Int32) (mk : Int32) (md : Nat → Int32) (sz : Nat) (hct : ct ≤ 4) (a b d3 : Int32) : pw_Mi l yM_find cM_find 6 .int ({ frames := 0, cells := 0, slots := 0, locals := 0 }) D [(cI, .int)] [.ref m0, .int a, .int b, .int d3] (pm_W m0 ad cI cd mt mf fd ct sc gl nu si wh pl sm ms mg mn mk md) sz (σ := Unit) (fun r _ => ∃ x, pm_fnd sc gl nu ct a b d3 x ∧ r = px_ix x) (fun _ => pm_W m0 ad cI cd mt mf fd ct sc gl nu si wh pl sm ms mg mn mk md) 0 0 := by
  refine pw_openI (by decide) (Nat.le_of_ble_eq_true rfl) ?_
  intro p e s m below meth c ls S hr hlk hl hsz w
  obtain ⟨hx, hb, hml, hown, hts⟩ := id S
  have hl : lv_has ls 6 [(0, .ref m0), (1, .int a), (2, .int b), (3, .int d3)] := hl
  generalize va_A (pm_W m0 ad cI cd mt mf fd ct sc gl nu si wh pl sm ms mg mn mk md) sz = A at w ⊢
  refine lv_iconst (v := (-1)) hx hb dM_find_0 (by decide) ?_
  refine lv_istore (lv' := [(4, .int (-1)), (0, .ref m0), (1, .int a), (2, .int b), (3, .int d3)]) hx hb dM_find_1 hl (by decide) rfl (fun ls hl => ?_)
  refine lv_iconst (v := 0) hx hb dM_find_3 (by decide) ?_
  refine lv_istore (lv' := [(5, .int 0), (4, .int (-1)), (0, .ref m0), (1, .int a), (2, .int b), (3, .int d3)]) hx hb dM_find_4 hl (by decide) rfl (fun ls hl => ?_)
  have loop : ∀ (n : Nat) (i : Nat) (x : Option Nat), i ≤ ct → ct < i + n → pm_fnd sc gl nu i a b d3 x → ∀ (H : Heap) (locs : List Loc), pw_S D [(cI, .int)] A (pm_W m0 ad cI cd mt mf fd ct sc gl nu si wh pl sm ms mg mn mk md) s H locs → ∀ (ls : Array Slot), lv_has ls 6 [(5, .int (nI i)), (4, .int (px_ix x)), (0, .ref m0), (1, .int a), (2, .int b), (3, .int d3)] → W p l e ({ frames := 0, cells := 0, slots := 0, locals := 0 }) s m #[Value.ref m0, Value.int a, Value.int b, Value.int d3] below meth c H locs 0 0 (MQ below (va_Qi (S := Unit) (fun r _ => ∃ x, pm_fnd sc gl nu ct a b d3 x ∧ r = px_ix x) (pw_B D (fun _ => pm_W m0 ad cI cd mt mf fd ct sc gl nu si wh pl sm ms mg mn mk md) (fun _ => [(cI, .int)]) A) A) #[Value.ref m0, Value.int a, Value.int b, Value.int d3] s 0 0 A) (F0 m 6 ls []) := by
    intro n
    induction n with
    | zero => intros; omega
    | succ n ih =>
      intro i x hi hn hx9 H locs w ls hl
      refine lv_iload hx hb dM_find_6 (lv_at hl 0 rfl) ?_
      refine lv_aload_n hx hb dM_find_8 rfl (lv_at hl 2 rfl) ?_
      refine pw_get S w pm_FM 0 rfl 4 (by decide) eM_43 (v := .int (nI ct)) rfl dM_find_9 ?_
      refine lv_icmp_ge (tgt := 63) hx hb dM_find_12 (by decide) (fun h1 => ?_) (fun h1 => ?_)
      · have e9 : i = ct := by have := (nI_leI (a := ct) (b := i) (by omega) (by omega)).mp h1; omega
        subst e9
        refine lv_iload hx hb dM_find_63 (lv_at hl 1 rfl) ?_
        exact pw_reti S hr hlk () w ⟨x, hx9, rfl⟩ (by decide) (by decide) dM_find_65
      · have hlt : i < ct := Nat.lt_of_not_le (fun q => h1 ((nI_leI (a := ct) (b := i) (by omega) (by omega)).mpr q))
        refine lv_aload_n hx hb dM_find_15 rfl (lv_at hl 2 rfl) ?_
        refine pw_get S w pm_FM 0 rfl 5 (by decide) eM_13 (v := .ref (ad 1)) rfl dM_find_16 ?_
        refine lv_iload hx hb dM_find_19 (lv_at hl 0 rfl) ?_
        refine pw_iald S w 2 0 (a := ad 1) (f := sc) (n := 5) (cA := cI) rfl rfl (j := i) (by omega) (by decide) dM_find_21 ?_
        refine lv_iload_n hx hb dM_find_22 rfl (lv_at hl 3 rfl) ?_
        refine lv_icmp_ne (tgt := 53) hx hb dM_find_23 (by decide) (fun h2 => ?_) (fun h2 => ?_)
        · refine lv_iload hx hb dM_find_53 (lv_at hl 1 rfl) ?_
          refine lv_istore (lv' := [(4, .int (px_ix x)), (5, .int (nI i)), (0, .ref m0), (1, .int a), (2, .int b), (3, .int d3)]) hx hb dM_find_55 hl (by decide) rfl (fun ls hl => ?_)
          refine lv_iinc (v := nI (i + 1)) (lv' := [(5, .int (nI (i + 1))), (4, .int (px_ix x)), (0, .ref m0), (1, .int a), (2, .int b), (3, .int d3)]) hx hb dM_find_57 hl (k := 1) rfl (nI_1 i) (by decide) rfl (fun ls hl => ?_)
          refine lv_goto (tgt := 6) hx hb dM_find_60 (by decide) ?_
          exact ih (i + 1) x (by omega) (by omega) (pm_fnd_n hx9 (fun q => h2 q.1)) H locs w ls hl
        · refine lv_aload_n hx hb dM_find_26 rfl (lv_at hl 2 rfl) ?_
          refine pw_get S w pm_FM 0 rfl 6 (by decide) eM_16 (v := .ref (ad 2)) rfl dM_find_27 ?_
          refine lv_iload hx hb dM_find_30 (lv_at hl 0 rfl) ?_
          refine pw_iald S w 3 0 (a := ad 2) (f := gl) (n := 5) (cA := cI) rfl rfl (j := i) (by omega) (by decide) dM_find_32 ?_
          refine lv_iload_n hx hb dM_find_33 rfl (lv_at hl 4 rfl) ?_
          refine lv_icmp_ne (tgt := 53) hx hb dM_find_34 (by decide) (fun h3 => ?_) (fun h3 => ?_)
          · refine lv_iload hx hb dM_find_53 (lv_at hl 1 rfl) ?_
            refine lv_istore (lv' := [(4, .int (px_ix x)), (5, .int (nI i)), (0, .ref m0), (1, .int a), (2, .int b), (3, .int d3)]) hx hb dM_find_55 hl (by decide) rfl (fun ls hl => ?_)
            refine lv_iinc (v := nI (i + 1)) (lv' := [(5, .int (nI (i + 1))), (4, .int (px_ix x)), (0, .ref m0), (1, .int a), (2, .int b), (3, .int d3)]) hx hb dM_find_57 hl (k := 1) rfl (nI_1 i) (by decide) rfl (fun ls hl => ?_)
            refine lv_goto (tgt := 6) hx hb dM_find_60 (by decide) ?_
            exact ih (i + 1) x (by omega) (by omega) (pm_fnd_n hx9 (fun q => h3 q.2.1)) H locs w ls hl
          · refine lv_aload_n hx hb dM_find_37 rfl (lv_at hl 2 rfl) ?_
            refine pw_get S w pm_FM 0 rfl 7 (by decide) eM_19 (v := .ref (ad 3)) rfl dM_find_38 ?_
            refine lv_iload hx hb dM_find_41 (lv_at hl 0 rfl) ?_
            refine pw_iald S w 4 0 (a := ad 3) (f := nu) (n := 5) (cA := cI) rfl rfl (j := i) (by omega) (by decide) dM_find_43 ?_
            refine lv_iload_n hx hb dM_find_44 rfl (lv_at hl 5 rfl) ?_
            refine lv_icmp_ne (tgt := 53) hx hb dM_find_45 (by decide) (fun h4 => ?_) (fun h4 => ?_)
            · refine lv_iload hx hb dM_find_53 (lv_at hl 1 rfl) ?_
              refine lv_istore (lv' := [(4, .int (px_ix x)), (5, .int (nI i)), (0, .ref m0), (1, .int a), (2, .int b), (3, .int d3)]) hx hb dM_find_55 hl (by decide) rfl (fun ls hl => ?_)
              refine lv_iinc (v := nI (i + 1)) (lv' := [(5, .int (nI (i + 1))), (4, .int (px_ix x)), (0, .ref m0), (1, .int a), (2, .int b), (3, .int d3)]) hx hb dM_find_57 hl (k := 1) rfl (nI_1 i) (by decide) rfl (fun ls hl => ?_)
              refine lv_goto (tgt := 6) hx hb dM_find_60 (by decide) ?_
              exact ih (i + 1) x (by omega) (by omega) (pm_fnd_n hx9 (fun q => h4 q.2.2)) H locs w ls hl
            · refine lv_iload hx hb dM_find_48 (lv_at hl 0 rfl) ?_
              refine lv_goto (tgt := 55) hx hb dM_find_50 (by decide) ?_
              refine pw_top (y := px_ix (some i)) rfl ?_
              refine lv_istore (lv' := [(4, .int (px_ix (some i))), (5, .int (nI i)), (0, .ref m0), (1, .int a), (2, .int b), (3, .int d3)]) hx hb dM_find_55 hl (by decide) rfl (fun ls hl => ?_)
              refine lv_iinc (v := nI (i + 1)) (lv' := [(5, .int (nI (i + 1))), (4, .int (px_ix (some i))), (0, .ref m0), (1, .int a), (2, .int b), (3, .int d3)]) hx hb dM_find_57 hl (k := 1) rfl (nI_1 i) (by decide) rfl (fun ls hl => ?_)
              refine lv_goto (tgt := 6) hx hb dM_find_60 (by decide) ?_
              exact ih (i + 1) (some i) (by omega) (by omega) (pm_fnd_y (x := none) ⟨h2, h3, h4⟩) H locs w ls hl
  exact loop (ct + 1) 0 none (by omega) (by omega) (fun q hq => absurd hq (by omega)) _ _ w ls hl

set_option maxHeartbeats 4000000 in
set_option maxRecDepth 100000 in
/-- the reference: forget -/
theorem pm_c_forget (l : Launch) (D : va_G) (m0 : Nat) (ad : Nat → Nat) (cI : ClassId) (cd : Int32) (mt : Nat) (mf : Nat) (fd : Nat → Int32) (ct : Nat) (sc : Nat → Int32) (gl : Nat → Int32) (nu : Nat → Int32) (si : Nat → Int32) (wh : Nat → Int32) (pl : Nat → Int32) (sm : Int32) (ms : Int32) (mg : Int32) (mn : Int32) (mk : Int32) (md : Nat → Int32) (sz : Nat) (k : Nat) (hk : k < ct) (hct : ct ≤ 4) : pw_Mv l yM_forget cM_forget 4 ({ frames := 0, cells := 0, slots := 0, locals := 0 }) D [(cI, .int)] [.ref m0, .int (nI k)] (pm_W m0 ad cI cd mt mf fd ct sc gl nu si wh pl sm ms mg mn mk md) sz (σ := Unit) (fun _ => True) (fun _ => pm_W m0 ad cI cd mt mf fd (ct - 1) (pm_s1 sc k (ct - 1)) (pm_s1 gl k (ct - 1)) (pm_s1 nu k (ct - 1)) (pm_s1 si k (ct - 1)) (pm_s1 wh k (ct - 1)) (pm_s2 pl (1480 * k) (1480 * (ct - 1))) sm ms mg mn mk md) (fun _ => [(cI, .int)]) 0 0 := by
  refine pw_openV (by decide) (Nat.le_of_ble_eq_true rfl) ?_
  intro p e s m below meth c ls S hr hlk hnm hl hsz w
  obtain ⟨hx, hb, hml, hown, hts⟩ := id S
  have hl : lv_has ls 4 [(0, .ref m0), (1, .int (nI k))] := hl
  generalize va_A (pm_W m0 ad cI cd mt mf fd ct sc gl nu si wh pl sm ms mg mn mk md) sz = A at w ⊢
  refine lv_aload_n hx hb dM_forget_0 rfl (lv_at hl 0 rfl) ?_
  refine lv_dup hx hb dM_forget_1 rfl ?_
  refine pw_get S w pm_FM 0 rfl 4 (by decide) eM_43 (v := .int (nI ct)) rfl dM_forget_2 ?_
  refine lv_iconst (v := 1) hx hb dM_forget_5 (by decide) ?_
  refine lv_isub hx hb dM_forget_6 ?_
  refine pw_top (y := nI (ct - 1)) (px_pred (by omega)) ?_
  refine pw_put S w pm_FM 0 (fs := [.int cd, .int (nI mt), .int (nI mf), .ref (ad 0), .int (nI ct), .ref (ad 1), .ref (ad 2), .ref (ad 3), .ref (ad 4), .ref (ad 5), .ref (ad 6), .int sm, .int ms, .int mg, .int mn, .int mk, .ref (ad 7)]) rfl 4 (by decide) eM_43 rfl (v := .int (nI (ct - 1))) rfl rfl (Nat.le_of_ble_eq_true rfl) dM_forget_7 (fun H locs w => ?_)
  have w : pw_S D [(cI, .int)] A (pm_W m0 ad cI cd mt mf fd (ct - 1) sc gl nu si wh pl sm ms mg mn mk md) s _ _ := w
  refine lv_iload_n hx hb dM_forget_10 rfl (lv_at hl 1 rfl) ?_
  refine lv_istore_n (lv' := [(2, .int (nI k)), (0, .ref m0), (1, .int (nI k))]) hx hb dM_forget_11 rfl hl (by decide) rfl (fun ls hl => ?_)
  have loop : ∀ (n : Nat) (i : Nat), k ≤ i → i ≤ ct - 1 → ct - 1 < i + n → ∀ (H : Heap) (locs : List Loc), pw_S D [(cI, .int)] A (pm_W m0 ad cI cd mt mf fd (ct - 1) (pm_s1 sc k i) (pm_s1 gl k i) (pm_s1 nu k i) (pm_s1 si k i) (pm_s1 wh k i) (pm_s2 pl (1480 * k) (1480 * i)) sm ms mg mn mk md) s H locs → ∀ (ls : Array Slot), lv_has ls 4 [(2, .int (nI i)), (0, .ref m0), (1, .int (nI k))] → W p l e ({ frames := 0, cells := 0, slots := 0, locals := 0 }) s m #[Value.ref m0, Value.int (nI k)] below meth c H locs 0 0 (MQ below (va_Qv (S := Unit) (fun _ => True) (pw_B D (fun _ => pm_W m0 ad cI cd mt mf fd (ct - 1) (pm_s1 sc k (ct - 1)) (pm_s1 gl k (ct - 1)) (pm_s1 nu k (ct - 1)) (pm_s1 si k (ct - 1)) (pm_s1 wh k (ct - 1)) (pm_s2 pl (1480 * k) (1480 * (ct - 1))) sm ms mg mn mk md) (fun _ => [(cI, .int)]) A) A) #[Value.ref m0, Value.int (nI k)] s 0 0 A) (F0 m 12 ls []) := by
    intro n
    induction n with
    | zero => intros; omega
    | succ n ih =>
      intro i hki hi hn H locs w ls hl
      refine lv_iload_n hx hb dM_forget_12 rfl (lv_at hl 0 rfl) ?_
      refine lv_aload_n hx hb dM_forget_13 rfl (lv_at hl 1 rfl) ?_
      refine pw_get S w pm_FM 0 rfl 4 (by decide) eM_43 (v := .int (nI (ct - 1))) rfl dM_forget_14 ?_
      refine lv_icmp_ge (tgt := 139) hx hb dM_forget_17 (by decide) (fun h1 => ?_) (fun h1 => ?_)
      · have e9 : i = ct - 1 := by have := (nI_leI (a := ct - 1) (b := i) (by omega) (by omega)).mp h1; omega
        subst e9
        exact pw_retv S hr hlk () w trivial (by decide) (by decide) dM_forget_139
      · have hlt : i < ct - 1 := Nat.lt_of_not_le (fun q => h1 ((nI_leI (a := ct - 1) (b := i) (by omega) (by omega)).mpr q))
        refine lv_aload_n hx hb dM_forget_20 rfl (lv_at hl 1 rfl) ?_
        refine pw_get S w pm_FM 0 rfl 5 (by decide) eM_13 (v := .ref (ad 1)) rfl dM_forget_21 ?_
        refine lv_iload_n hx hb dM_forget_24 rfl (lv_at hl 0 rfl) ?_
        refine lv_aload_n hx hb dM_forget_25 rfl (lv_at hl 1 rfl) ?_
        refine pw_get S w pm_FM 0 rfl 5 (by decide) eM_13 (v := .ref (ad 1)) rfl dM_forget_26 ?_
        refine lv_iload_n hx hb dM_forget_29 rfl (lv_at hl 0 rfl) ?_
        refine lv_iconst (v := 1) hx hb dM_forget_30 (by decide) ?_
        refine lv_iadd hx hb dM_forget_31 ?_
        refine pw_top (y := nI (i + 1)) (nI_1 i) ?_
        refine pw_iald S w 2 0 (a := ad 1) (f := pm_s1 sc k i) (n := 5) (cA := cI) rfl rfl (j := i + 1) (by omega) (by decide) dM_forget_32 ?_
        refine pw_iast S w 2 0 (a := ad 1) (f := pm_s1 sc k i) (n := 5) (cA := cI) rfl rfl (j := i) (by omega) (by decide) dM_forget_33 (fun H locs w => ?_)
        have w : pw_S D [(cI, .int)] A (pm_W m0 ad cI cd mt mf fd (ct - 1) (upd (pm_s1 sc k i) i ((pm_s1 sc k i) (i + 1))) (pm_s1 gl k i) (pm_s1 nu k i) (pm_s1 si k i) (pm_s1 wh k i) (pm_s2 pl (1480 * k) (1480 * i)) sm ms mg mn mk md) s _ _ := w
        have w : pw_S D [(cI, .int)] A (pm_W m0 ad cI cd mt mf fd (ct - 1) (pm_s1 sc k (i + 1)) (pm_s1 gl k i) (pm_s1 nu k i) (pm_s1 si k i) (pm_s1 wh k i) (pm_s2 pl (1480 * k) (1480 * i)) sm ms mg mn mk md) s _ _ := w.to (by rw [pm_s1_s sc hki])
        refine lv_aload_n hx hb dM_forget_34 rfl (lv_at hl 1 rfl) ?_
        refine pw_get S w pm_FM 0 rfl 6 (by decide) eM_16 (v := .ref (ad 2)) rfl dM_forget_35 ?_
        refine lv_iload_n hx hb dM_forget_38 rfl (lv_at hl 0 rfl) ?_
        refine lv_aload_n hx hb dM_forget_39 rfl (lv_at hl 1 rfl) ?_
        refine pw_get S w pm_FM 0 rfl 6 (by decide) eM_16 (v := .ref (ad 2)) rfl dM_forget_40 ?_
        refine lv_iload_n hx hb dM_forget_43 rfl (lv_at hl 0 rfl) ?_
        refine lv_iconst (v := 1) hx hb dM_forget_44 (by decide) ?_
        refine lv_iadd hx hb dM_forget_45 ?_
        refine pw_top (y := nI (i + 1)) (nI_1 i) ?_
        refine pw_iald S w 3 0 (a := ad 2) (f := pm_s1 gl k i) (n := 5) (cA := cI) rfl rfl (j := i + 1) (by omega) (by decide) dM_forget_46 ?_
        refine pw_iast S w 3 0 (a := ad 2) (f := pm_s1 gl k i) (n := 5) (cA := cI) rfl rfl (j := i) (by omega) (by decide) dM_forget_47 (fun H locs w => ?_)
        have w : pw_S D [(cI, .int)] A (pm_W m0 ad cI cd mt mf fd (ct - 1) (pm_s1 sc k (i + 1)) (upd (pm_s1 gl k i) i ((pm_s1 gl k i) (i + 1))) (pm_s1 nu k i) (pm_s1 si k i) (pm_s1 wh k i) (pm_s2 pl (1480 * k) (1480 * i)) sm ms mg mn mk md) s _ _ := w
        have w : pw_S D [(cI, .int)] A (pm_W m0 ad cI cd mt mf fd (ct - 1) (pm_s1 sc k (i + 1)) (pm_s1 gl k (i + 1)) (pm_s1 nu k i) (pm_s1 si k i) (pm_s1 wh k i) (pm_s2 pl (1480 * k) (1480 * i)) sm ms mg mn mk md) s _ _ := w.to (by rw [pm_s1_s gl hki])
        refine lv_aload_n hx hb dM_forget_48 rfl (lv_at hl 1 rfl) ?_
        refine pw_get S w pm_FM 0 rfl 7 (by decide) eM_19 (v := .ref (ad 3)) rfl dM_forget_49 ?_
        refine lv_iload_n hx hb dM_forget_52 rfl (lv_at hl 0 rfl) ?_
        refine lv_aload_n hx hb dM_forget_53 rfl (lv_at hl 1 rfl) ?_
        refine pw_get S w pm_FM 0 rfl 7 (by decide) eM_19 (v := .ref (ad 3)) rfl dM_forget_54 ?_
        refine lv_iload_n hx hb dM_forget_57 rfl (lv_at hl 0 rfl) ?_
        refine lv_iconst (v := 1) hx hb dM_forget_58 (by decide) ?_
        refine lv_iadd hx hb dM_forget_59 ?_
        refine pw_top (y := nI (i + 1)) (nI_1 i) ?_
        refine pw_iald S w 4 0 (a := ad 3) (f := pm_s1 nu k i) (n := 5) (cA := cI) rfl rfl (j := i + 1) (by omega) (by decide) dM_forget_60 ?_
        refine pw_iast S w 4 0 (a := ad 3) (f := pm_s1 nu k i) (n := 5) (cA := cI) rfl rfl (j := i) (by omega) (by decide) dM_forget_61 (fun H locs w => ?_)
        have w : pw_S D [(cI, .int)] A (pm_W m0 ad cI cd mt mf fd (ct - 1) (pm_s1 sc k (i + 1)) (pm_s1 gl k (i + 1)) (upd (pm_s1 nu k i) i ((pm_s1 nu k i) (i + 1))) (pm_s1 si k i) (pm_s1 wh k i) (pm_s2 pl (1480 * k) (1480 * i)) sm ms mg mn mk md) s _ _ := w
        have w : pw_S D [(cI, .int)] A (pm_W m0 ad cI cd mt mf fd (ct - 1) (pm_s1 sc k (i + 1)) (pm_s1 gl k (i + 1)) (pm_s1 nu k (i + 1)) (pm_s1 si k i) (pm_s1 wh k i) (pm_s2 pl (1480 * k) (1480 * i)) sm ms mg mn mk md) s _ _ := w.to (by rw [pm_s1_s nu hki])
        refine lv_aload_n hx hb dM_forget_62 rfl (lv_at hl 1 rfl) ?_
        refine pw_get S w pm_FM 0 rfl 8 (by decide) eM_22 (v := .ref (ad 4)) rfl dM_forget_63 ?_
        refine lv_iload_n hx hb dM_forget_66 rfl (lv_at hl 0 rfl) ?_
        refine lv_aload_n hx hb dM_forget_67 rfl (lv_at hl 1 rfl) ?_
        refine pw_get S w pm_FM 0 rfl 8 (by decide) eM_22 (v := .ref (ad 4)) rfl dM_forget_68 ?_
        refine lv_iload_n hx hb dM_forget_71 rfl (lv_at hl 0 rfl) ?_
        refine lv_iconst (v := 1) hx hb dM_forget_72 (by decide) ?_
        refine lv_iadd hx hb dM_forget_73 ?_
        refine pw_top (y := nI (i + 1)) (nI_1 i) ?_
        refine pw_iald S w 5 0 (a := ad 4) (f := pm_s1 si k i) (n := 5) (cA := cI) rfl rfl (j := i + 1) (by omega) (by decide) dM_forget_74 ?_
        refine pw_iast S w 5 0 (a := ad 4) (f := pm_s1 si k i) (n := 5) (cA := cI) rfl rfl (j := i) (by omega) (by decide) dM_forget_75 (fun H locs w => ?_)
        have w : pw_S D [(cI, .int)] A (pm_W m0 ad cI cd mt mf fd (ct - 1) (pm_s1 sc k (i + 1)) (pm_s1 gl k (i + 1)) (pm_s1 nu k (i + 1)) (upd (pm_s1 si k i) i ((pm_s1 si k i) (i + 1))) (pm_s1 wh k i) (pm_s2 pl (1480 * k) (1480 * i)) sm ms mg mn mk md) s _ _ := w
        have w : pw_S D [(cI, .int)] A (pm_W m0 ad cI cd mt mf fd (ct - 1) (pm_s1 sc k (i + 1)) (pm_s1 gl k (i + 1)) (pm_s1 nu k (i + 1)) (pm_s1 si k (i + 1)) (pm_s1 wh k i) (pm_s2 pl (1480 * k) (1480 * i)) sm ms mg mn mk md) s _ _ := w.to (by rw [pm_s1_s si hki])
        refine lv_aload_n hx hb dM_forget_76 rfl (lv_at hl 1 rfl) ?_
        refine pw_get S w pm_FM 0 rfl 9 (by decide) eM_25 (v := .ref (ad 5)) rfl dM_forget_77 ?_
        refine lv_iload_n hx hb dM_forget_80 rfl (lv_at hl 0 rfl) ?_
        refine lv_aload_n hx hb dM_forget_81 rfl (lv_at hl 1 rfl) ?_
        refine pw_get S w pm_FM 0 rfl 9 (by decide) eM_25 (v := .ref (ad 5)) rfl dM_forget_82 ?_
        refine lv_iload_n hx hb dM_forget_85 rfl (lv_at hl 0 rfl) ?_
        refine lv_iconst (v := 1) hx hb dM_forget_86 (by decide) ?_
        refine lv_iadd hx hb dM_forget_87 ?_
        refine pw_top (y := nI (i + 1)) (nI_1 i) ?_
        refine pw_iald S w 6 0 (a := ad 5) (f := pm_s1 wh k i) (n := 5) (cA := cI) rfl rfl (j := i + 1) (by omega) (by decide) dM_forget_88 ?_
        refine pw_iast S w 6 0 (a := ad 5) (f := pm_s1 wh k i) (n := 5) (cA := cI) rfl rfl (j := i) (by omega) (by decide) dM_forget_89 (fun H locs w => ?_)
        have w : pw_S D [(cI, .int)] A (pm_W m0 ad cI cd mt mf fd (ct - 1) (pm_s1 sc k (i + 1)) (pm_s1 gl k (i + 1)) (pm_s1 nu k (i + 1)) (pm_s1 si k (i + 1)) (upd (pm_s1 wh k i) i ((pm_s1 wh k i) (i + 1))) (pm_s2 pl (1480 * k) (1480 * i)) sm ms mg mn mk md) s _ _ := w
        have w : pw_S D [(cI, .int)] A (pm_W m0 ad cI cd mt mf fd (ct - 1) (pm_s1 sc k (i + 1)) (pm_s1 gl k (i + 1)) (pm_s1 nu k (i + 1)) (pm_s1 si k (i + 1)) (pm_s1 wh k (i + 1)) (pm_s2 pl (1480 * k) (1480 * i)) sm ms mg mn mk md) s _ _ := w.to (by rw [pm_s1_s wh hki])
        refine lv_iconst (v := 0) hx hb dM_forget_90 (by decide) ?_
        refine lv_istore_n (lv' := [(3, .int 0), (2, .int (nI i)), (0, .ref m0), (1, .int (nI k))]) hx hb dM_forget_91 rfl hl (by decide) rfl (fun ls hl => ?_)
        have inner : ∀ (n9 j : Nat), j ≤ 1480 → 1480 < j + n9 → ∀ (H : Heap) (locs : List Loc), pw_S D [(cI, .int)] A (pm_W m0 ad cI cd mt mf fd (ct - 1) (pm_s1 sc k (i + 1)) (pm_s1 gl k (i + 1)) (pm_s1 nu k (i + 1)) (pm_s1 si k (i + 1)) (pm_s1 wh k (i + 1)) (pm_s2 pl (1480 * k) (1480 * i + j)) sm ms mg mn mk md) s H locs → ∀ (ls : Array Slot), lv_has ls 4 [(3, .int (nI j)), (2, .int (nI i)), (0, .ref m0), (1, .int (nI k))] → W p l e ({ frames := 0, cells := 0, slots := 0, locals := 0 }) s m #[Value.ref m0, Value.int (nI k)] below meth c H locs 0 0 (MQ below (va_Qv (S := Unit) (fun _ => True) (pw_B D (fun _ => pm_W m0 ad cI cd mt mf fd (ct - 1) (pm_s1 sc k (ct - 1)) (pm_s1 gl k (ct - 1)) (pm_s1 nu k (ct - 1)) (pm_s1 si k (ct - 1)) (pm_s1 wh k (ct - 1)) (pm_s2 pl (1480 * k) (1480 * (ct - 1))) sm ms mg mn mk md) (fun _ => [(cI, .int)]) A) A) #[Value.ref m0, Value.int (nI k)] s 0 0 A) (F0 m 92 ls []) := by
          intro n9
          induction n9 with
          | zero => intros; omega
          | succ n9 ih9 =>
            intro j hj hn9 H locs w ls hl
            refine lv_iload_n hx hb dM_forget_92 rfl (lv_at hl 0 rfl) ?_
            refine lv_sipush (v := 1480) hx hb dM_forget_93 (by decide) ?_
            refine lv_icmp_ge (tgt := 133) hx hb dM_forget_96 (by decide) (fun h2 => ?_) (fun h2 => ?_)
            · have e9 : j = 1480 := by have := (nI_leI (a := 1480) (b := j) (by decide) (by omega)).mp h2; omega
              subst e9
              refine lv_iinc (v := nI (i + 1)) (lv' := [(2, .int (nI (i + 1))), (3, .int (nI 1480)), (0, .ref m0), (1, .int (nI k))]) hx hb dM_forget_133 hl (k := 1) rfl (nI_1 i) (by decide) rfl (fun ls hl => ?_)
              refine lv_goto (tgt := 12) hx hb dM_forget_136 (by decide) ?_
              exact ih (i + 1) (by omega) (by omega) (by omega) H locs (w.to (by rw [show 1480 * i + 1480 = 1480 * (i + 1) by omega])) ls (lv_sub hl [0, 2, 3] rfl)
            · have hlt2 : j < 1480 := Nat.lt_of_not_le (fun q => h2 ((nI_leI (a := 1480) (b := j) (by decide) (by omega)).mpr q))
              refine lv_aload_n hx hb dM_forget_99 rfl (lv_at hl 2 rfl) ?_
              refine pw_get S w pm_FM 0 rfl 10 (by decide) eM_28 (v := .ref (ad 6)) rfl dM_forget_100 ?_
              refine lv_sipush (v := 1480) hx hb dM_forget_103 (by decide) ?_
              refine lv_iload_n hx hb dM_forget_106 rfl (lv_at hl 1 rfl) ?_
              refine lv_imul hx hb dM_forget_107 ?_
              refine lv_iload_n hx hb dM_forget_108 rfl (lv_at hl 0 rfl) ?_
              refine lv_iadd hx hb dM_forget_109 ?_
              refine pw_top (y := nI (1480 * i + j)) (pm_ix i j) ?_
              refine lv_aload_n hx hb dM_forget_110 rfl (lv_at hl 2 rfl) ?_
              refine pw_get S w pm_FM 0 rfl 10 (by decide) eM_28 (v := .ref (ad 6)) rfl dM_forget_111 ?_
              refine lv_sipush (v := 1480) hx hb dM_forget_114 (by decide) ?_
              refine lv_iload_n hx hb dM_forget_117 rfl (lv_at hl 1 rfl) ?_
              refine lv_imul hx hb dM_forget_118 ?_
              refine lv_sipush (v := 1480) hx hb dM_forget_119 (by decide) ?_
              refine lv_iadd hx hb dM_forget_122 ?_
              refine lv_iload_n hx hb dM_forget_123 rfl (lv_at hl 0 rfl) ?_
              refine lv_iadd hx hb dM_forget_124 ?_
              refine pw_top (y := nI (1480 * i + 1480 + j)) (pm_ix2 i j) ?_
              refine pw_iald S w 7 0 (a := ad 6) (f := pm_s2 pl (1480 * k) (1480 * i + j)) (n := 7400) (cA := cI) rfl rfl (j := 1480 * i + 1480 + j) (by omega) (by decide) dM_forget_125 ?_
              refine pw_iast S w 7 0 (a := ad 6) (f := pm_s2 pl (1480 * k) (1480 * i + j)) (n := 7400) (cA := cI) rfl rfl (j := 1480 * i + j) (by omega) (by decide) dM_forget_126 (fun H locs w => ?_)
              have w : pw_S D [(cI, .int)] A (pm_W m0 ad cI cd mt mf fd (ct - 1) (pm_s1 sc k (i + 1)) (pm_s1 gl k (i + 1)) (pm_s1 nu k (i + 1)) (pm_s1 si k (i + 1)) (pm_s1 wh k (i + 1)) (upd (pm_s2 pl (1480 * k) (1480 * i + j)) (1480 * i + j) ((pm_s2 pl (1480 * k) (1480 * i + j)) (1480 * i + 1480 + j))) sm ms mg mn mk md) s _ _ := w
              have w : pw_S D [(cI, .int)] A (pm_W m0 ad cI cd mt mf fd (ct - 1) (pm_s1 sc k (i + 1)) (pm_s1 gl k (i + 1)) (pm_s1 nu k (i + 1)) (pm_s1 si k (i + 1)) (pm_s1 wh k (i + 1)) (pm_s2 pl (1480 * k) (1480 * i + (j + 1))) sm ms mg mn mk md) s _ _ := w.to (by rw [show 1480 * i + 1480 + j = 1480 * i + j + 1480 by omega, pm_s2_s pl (show 1480 * k ≤ 1480 * i + j by omega), show 1480 * i + j + 1 = 1480 * i + (j + 1) by omega])
              refine lv_iinc (v := nI (j + 1)) (lv' := [(3, .int (nI (j + 1))), (2, .int (nI i)), (0, .ref m0), (1, .int (nI k))]) hx hb dM_forget_127 hl (k := 0) rfl (nI_1 j) (by decide) rfl (fun ls hl => ?_)
              refine lv_goto (tgt := 92) hx hb dM_forget_130 (by decide) ?_
              exact ih9 (j + 1) (by omega) (by omega) H locs w ls hl
        exact inner 1481 0 (by omega) (by omega) _ _ w ls hl
  exact loop ct k (by omega) (by omega) (by omega) _ _ (w.to (by rw [pm_s1_0, pm_s1_0, pm_s1_0, pm_s1_0, pm_s1_0, pm_s2_0])) ls hl

set_option maxHeartbeats 4000000 in
set_option maxRecDepth 100000 in
/-- the reference: lacks -/
theorem pm_c_lacks (l : Launch) (D : va_G) (m0 : Nat) (ad : Nat → Nat) (cI : ClassId) (cd : Int32) (mt : Nat) (mf : Nat) (fd : Nat → Int32) (ct : Nat) (sc : Nat → Int32) (gl : Nat → Int32) (nu : Nat → Int32) (si : Nat → Int32) (wh : Nat → Int32) (pl : Nat → Int32) (sm : Int32) (ms : Int32) (mg : Int32) (mn : Int32) (mk : Int32) (md : Nat → Int32) (sz : Nat) (k : Nat) (hk : k < 5) (wn : Nat) (hw : wh k = nI wn) (hwn : wn ≤ 1480) : pw_Mi l yM_lacks cM_lacks 4 .int ({ frames := 0, cells := 0, slots := 0, locals := 0 }) D [(cI, .int)] [.ref m0, .int (nI k)] (pm_W m0 ad cI cd mt mf fd ct sc gl nu si wh pl sm ms mg mn mk md) sz (σ := Unit) (fun r _ => r = nI (pm_c (fun i => pl (1480 * k + i)) wn)) (fun _ => pm_W m0 ad cI cd mt mf fd ct sc gl nu si wh pl sm ms mg mn mk md) 0 0 := by
  refine pw_openI (by decide) (Nat.le_of_ble_eq_true rfl) ?_
  intro p e s m below meth c ls S hr hlk hl hsz w
  obtain ⟨hx, hb, hml, hown, hts⟩ := id S
  have hl : lv_has ls 4 [(0, .ref m0), (1, .int (nI k))] := hl
  generalize va_A (pm_W m0 ad cI cd mt mf fd ct sc gl nu si wh pl sm ms mg mn mk md) sz = A at w ⊢
  refine lv_iconst (v := 0) hx hb dM_lacks_0 (by decide) ?_
  refine lv_istore_n (lv' := [(2, .int 0), (0, .ref m0), (1, .int (nI k))]) hx hb dM_lacks_1 rfl hl (by decide) rfl (fun ls hl => ?_)
  refine lv_iconst (v := 0) hx hb dM_lacks_2 (by decide) ?_
  refine lv_istore_n (lv' := [(3, .int 0), (2, .int 0), (0, .ref m0), (1, .int (nI k))]) hx hb dM_lacks_3 rfl hl (by decide) rfl (fun ls hl => ?_)
  have loop : ∀ (n : Nat) (i : Nat), i ≤ wn → wn < i + n → ∀ (H : Heap) (locs : List Loc), pw_S D [(cI, .int)] A (pm_W m0 ad cI cd mt mf fd ct sc gl nu si wh pl sm ms mg mn mk md) s H locs → ∀ (ls : Array Slot), lv_has ls 4 [(3, .int (nI i)), (2, .int (nI (pm_c (fun i => pl (1480 * k + i)) i))), (0, .ref m0), (1, .int (nI k))] → W p l e ({ frames := 0, cells := 0, slots := 0, locals := 0 }) s m #[Value.ref m0, Value.int (nI k)] below meth c H locs 0 0 (MQ below (va_Qi (S := Unit) (fun r _ => r = nI (pm_c (fun i => pl (1480 * k + i)) wn)) (pw_B D (fun _ => pm_W m0 ad cI cd mt mf fd ct sc gl nu si wh pl sm ms mg mn mk md) (fun _ => [(cI, .int)]) A) A) #[Value.ref m0, Value.int (nI k)] s 0 0 A) (F0 m 4 ls []) := by
    intro n
    induction n with
    | zero => intros; omega
    | succ n ih =>
      intro i hi hn H locs w ls hl
      refine lv_iload_n hx hb dM_lacks_4 rfl (lv_at hl 0 rfl) ?_
      refine lv_aload_n hx hb dM_lacks_5 rfl (lv_at hl 2 rfl) ?_
      refine pw_get S w pm_FM 0 rfl 9 (by decide) eM_25 (v := .ref (ad 5)) rfl dM_lacks_6 ?_
      refine lv_iload_n hx hb dM_lacks_9 rfl (lv_at hl 3 rfl) ?_
      refine pw_iald S w 6 0 (a := ad 5) (f := wh) (n := 5) (cA := cI) rfl rfl (j := k) (by omega) (by decide) dM_lacks_10 ?_
      refine pw_top (y := nI wn) hw ?_
      refine lv_icmp_ge (tgt := 43) hx hb dM_lacks_11 (by decide) (fun h1 => ?_) (fun h1 => ?_)
      · have e9 : i = wn := by have := (nI_leI (a := wn) (b := i) (by omega) (by omega)).mp h1; omega
        subst e9
        refine lv_iload_n hx hb dM_lacks_43 rfl (lv_at hl 1 rfl) ?_
        exact pw_reti S hr hlk () w rfl (by decide) (by decide) dM_lacks_44
      · have hlt : i < wn := Nat.lt_of_not_le (fun q => h1 ((nI_leI (a := wn) (b := i) (by omega) (by omega)).mpr q))
        refine lv_iload_n hx hb dM_lacks_14 rfl (lv_at hl 1 rfl) ?_
        refine lv_aload_n hx hb dM_lacks_15 rfl (lv_at hl 2 rfl) ?_
        refine pw_get S w pm_FM 0 rfl 10 (by decide) eM_28 (v := .ref (ad 6)) rfl dM_lacks_16 ?_
        refine lv_sipush (v := 1480) hx hb dM_lacks_19 (by decide) ?_
        refine lv_iload_n hx hb dM_lacks_22 rfl (lv_at hl 3 rfl) ?_
        refine lv_imul hx hb dM_lacks_23 ?_
        refine lv_iload_n hx hb dM_lacks_24 rfl (lv_at hl 0 rfl) ?_
        refine lv_iadd hx hb dM_lacks_25 ?_
        refine pw_top (y := nI (1480 * k + i)) (pm_ix k i) ?_
        refine pw_iald S w 7 0 (a := ad 6) (f := pl) (n := 7400) (cA := cI) rfl rfl (j := 1480 * k + i) (by omega) (by decide) dM_lacks_26 ?_
        refine lv_if_ge (tgt := 34) hx hb dM_lacks_27 (by decide) (fun h2 => ?_) (fun h2 => ?_)
        · refine lv_iconst (v := 0) hx hb dM_lacks_34 (by decide) ?_
          refine lv_iadd hx hb dM_lacks_35 ?_
          refine pw_top (y := nI (pm_c (fun i => pl (1480 * k + i)) (i + 1))) (show nI (pm_c (fun i => pl (1480 * k + i)) i) + 0 = nI (pm_c (fun i => pl (1480 * k + i)) i + _) by rw [if_neg (pm_nn h2)]; exact nI_add _ 0) ?_
          refine lv_istore_n (lv' := [(2, .int (nI (pm_c (fun i => pl (1480 * k + i)) (i + 1)))), (3, .int (nI i)), (0, .ref m0), (1, .int (nI k))]) hx hb dM_lacks_36 rfl hl (by decide) rfl (fun ls hl => ?_)
          refine lv_iinc (v := nI (i + 1)) (lv' := [(3, .int (nI (i + 1))), (2, .int (nI (pm_c (fun i => pl (1480 * k + i)) (i + 1)))), (0, .ref m0), (1, .int (nI k))]) hx hb dM_lacks_37 hl (k := 1) rfl (nI_1 i) (by decide) rfl (fun ls hl => ?_)
          refine lv_goto (tgt := 4) hx hb dM_lacks_40 (by decide) ?_
          exact ih (i + 1) (by omega) (by omega) H locs w ls (lv_sub hl [0, 1, 2, 3] rfl)
        · refine lv_iconst (v := 1) hx hb dM_lacks_30 (by decide) ?_
          refine lv_goto (tgt := 35) hx hb dM_lacks_31 (by decide) ?_
          refine lv_iadd hx hb dM_lacks_35 ?_
          refine pw_top (y := nI (pm_c (fun i => pl (1480 * k + i)) (i + 1))) (show nI (pm_c (fun i => pl (1480 * k + i)) i) + 1 = nI (pm_c (fun i => pl (1480 * k + i)) i + _) by rw [if_pos (pm_ng h2)]; exact nI_1 _) ?_
          refine lv_istore_n (lv' := [(2, .int (nI (pm_c (fun i => pl (1480 * k + i)) (i + 1)))), (3, .int (nI i)), (0, .ref m0), (1, .int (nI k))]) hx hb dM_lacks_36 rfl hl (by decide) rfl (fun ls hl => ?_)
          refine lv_iinc (v := nI (i + 1)) (lv' := [(3, .int (nI (i + 1))), (2, .int (nI (pm_c (fun i => pl (1480 * k + i)) (i + 1)))), (0, .ref m0), (1, .int (nI k))]) hx hb dM_lacks_37 hl (k := 1) rfl (nI_1 i) (by decide) rfl (fun ls hl => ?_)
          refine lv_goto (tgt := 4) hx hb dM_lacks_40 (by decide) ?_
          exact ih (i + 1) (by omega) (by omega) H locs w ls (lv_sub hl [0, 1, 2, 3] rfl)
  exact loop (wn + 1) 0 (by omega) (by omega) _ _ w ls hl
end
section
set_option maxHeartbeats 4000000 in
set_option maxRecDepth 100000 in
/-- the reference: begin -/
theorem pm_c_begin (l : Launch) (D : va_G) (m0 : Nat) (ad : Nat → Nat) (cI : ClassId) (cd : Int32) (mt : Nat) (mf : Nat) (fd : Nat → Int32) (ct : Nat) (sc : Nat → Int32) (gl : Nat → Int32) (nu : Nat → Int32) (si : Nat → Int32) (wh : Nat → Int32) (pl : Nat → Int32) (sm : Int32) (ms : Int32) (mg : Int32) (mn : Int32) (mk : Int32) (md : Nat → Int32) (sz : Nat) (hct : ct ≤ 4) (a b d3 wl : Int32) : pw_Mv l yM_begin cM_begin 6 ({ frames := 1, cells := 0, slots := 0, locals := 60 }) D [(cI, .int)] [.ref m0, .int a, .int b, .int d3, .int wl] (pm_W m0 ad cI cd mt mf fd ct sc gl nu si wh pl sm ms mg mn mk md) sz (σ := Unit) (fun _ => True) (fun _ => pm_W m0 ad cI cd mt mf fd (pm_mkn ct + 1) (upd (pm_mk ct sc) (pm_mkn ct) a) (upd (pm_mk ct gl) (pm_mkn ct) b) (upd (pm_mk ct nu) (pm_mkn ct) d3) (upd (pm_mk ct si) (pm_mkn ct) (nI mt)) (upd (pm_mk ct wh) (pm_mkn ct) wl) (pm_fl (pm_mk2 ct pl) (1480 * pm_mkn ct) 1480) sm ms mg mn mk md) (fun _ => [(cI, .int)]) 0 0 := by
  refine pw_openV (by decide) (Nat.le_of_ble_eq_true rfl) ?_
  intro p e s m below meth c ls S hr hlk hnm hl hsz w
  obtain ⟨hx, hb, hml, hown, hts⟩ := id S
  have hl : lv_has ls 6 [(0, .ref m0), (1, .int a), (2, .int b), (3, .int d3), (4, .int wl)] := hl
  generalize va_A (pm_W m0 ad cI cd mt mf fd ct sc gl nu si wh pl sm ms mg mn mk md) sz = A at w ⊢
  have tail : ∀ (n1 : Nat) (sc1 gl1 nu1 si1 wh1 pl1 : Nat → Int32), n1 = pm_mkn ct → sc1 = pm_mk ct sc → gl1 = pm_mk ct gl → nu1 = pm_mk ct nu → si1 = pm_mk ct si → wh1 = pm_mk ct wh → pl1 = pm_mk2 ct pl → n1 ≤ 3 → ∀ (H : Heap) (locs : List Loc), pw_S D [(cI, .int)] A (pm_W m0 ad cI cd mt mf fd n1 sc1 gl1 nu1 si1 wh1 pl1 sm ms mg mn mk md) s H locs → ∀ (ls : Array Slot), lv_has ls 6 [(0, .ref m0), (1, .int a), (2, .int b), (3, .int d3), (4, .int wl)] → W p l e ({ frames := 1, cells := 0, slots := 0, locals := 60 }) s m #[Value.ref m0, Value.int a, Value.int b, Value.int d3, Value.int wl] below meth c H locs 0 0 (MQ below (va_Qv (S := Unit) (fun _ => True) (pw_B D (fun _ => pm_W m0 ad cI cd mt mf fd (pm_mkn ct + 1) (upd (pm_mk ct sc) (pm_mkn ct) a) (upd (pm_mk ct gl) (pm_mkn ct) b) (upd (pm_mk ct nu) (pm_mkn ct) d3) (upd (pm_mk ct si) (pm_mkn ct) (nI mt)) (upd (pm_mk ct wh) (pm_mkn ct) wl) (pm_fl (pm_mk2 ct pl) (1480 * pm_mkn ct) 1480) sm ms mg mn mk md) (fun _ => [(cI, .int)]) A) A) #[Value.ref m0, Value.int a, Value.int b, Value.int d3, Value.int wl] s 0 0 A) (F0 m 13 ls []) := by
    intro n1 sc1 gl1 nu1 si1 wh1 pl1 e1 e2 e3 e4 e5 e6 e7 hn1 H locs w ls hl
    refine lv_aload_n hx hb dM_begin_13 rfl (lv_at hl 0 rfl) ?_
    refine pw_get S w pm_FM 0 rfl 5 (by decide) eM_13 (v := .ref (ad 1)) rfl dM_begin_14 ?_
    refine lv_aload_n hx hb dM_begin_17 rfl (lv_at hl 0 rfl) ?_
    refine pw_get S w pm_FM 0 rfl 4 (by decide) eM_43 (v := .int (nI n1)) rfl dM_begin_18 ?_
    refine lv_iload_n hx hb dM_begin_21 rfl (lv_at hl 1 rfl) ?_
    refine pw_iast S w 2 0 (a := ad 1) (f := sc1) (n := 5) (cA := cI) rfl rfl (j := n1) (by omega) (by decide) dM_begin_22 (fun H locs w => ?_)
    have w : pw_S D [(cI, .int)] A (pm_W m0 ad cI cd mt mf fd n1 (upd sc1 n1 a) gl1 nu1 si1 wh1 pl1 sm ms mg mn mk md) s _ _ := w
    refine lv_aload_n hx hb dM_begin_23 rfl (lv_at hl 0 rfl) ?_
    refine pw_get S w pm_FM 0 rfl 6 (by decide) eM_16 (v := .ref (ad 2)) rfl dM_begin_24 ?_
    refine lv_aload_n hx hb dM_begin_27 rfl (lv_at hl 0 rfl) ?_
    refine pw_get S w pm_FM 0 rfl 4 (by decide) eM_43 (v := .int (nI n1)) rfl dM_begin_28 ?_
    refine lv_iload_n hx hb dM_begin_31 rfl (lv_at hl 2 rfl) ?_
    refine pw_iast S w 3 0 (a := ad 2) (f := gl1) (n := 5) (cA := cI) rfl rfl (j := n1) (by omega) (by decide) dM_begin_32 (fun H locs w => ?_)
    have w : pw_S D [(cI, .int)] A (pm_W m0 ad cI cd mt mf fd n1 (upd sc1 n1 a) (upd gl1 n1 b) nu1 si1 wh1 pl1 sm ms mg mn mk md) s _ _ := w
    refine lv_aload_n hx hb dM_begin_33 rfl (lv_at hl 0 rfl) ?_
    refine pw_get S w pm_FM 0 rfl 7 (by decide) eM_19 (v := .ref (ad 3)) rfl dM_begin_34 ?_
    refine lv_aload_n hx hb dM_begin_37 rfl (lv_at hl 0 rfl) ?_
    refine pw_get S w pm_FM 0 rfl 4 (by decide) eM_43 (v := .int (nI n1)) rfl dM_begin_38 ?_
    refine lv_iload_n hx hb dM_begin_41 rfl (lv_at hl 3 rfl) ?_
    refine pw_iast S w 4 0 (a := ad 3) (f := nu1) (n := 5) (cA := cI) rfl rfl (j := n1) (by omega) (by decide) dM_begin_42 (fun H locs w => ?_)
    have w : pw_S D [(cI, .int)] A (pm_W m0 ad cI cd mt mf fd n1 (upd sc1 n1 a) (upd gl1 n1 b) (upd nu1 n1 d3) si1 wh1 pl1 sm ms mg mn mk md) s _ _ := w
    refine lv_aload_n hx hb dM_begin_43 rfl (lv_at hl 0 rfl) ?_
    refine pw_get S w pm_FM 0 rfl 8 (by decide) eM_22 (v := .ref (ad 4)) rfl dM_begin_44 ?_
    refine lv_aload_n hx hb dM_begin_47 rfl (lv_at hl 0 rfl) ?_
    refine pw_get S w pm_FM 0 rfl 4 (by decide) eM_43 (v := .int (nI n1)) rfl dM_begin_48 ?_
    refine lv_aload_n hx hb dM_begin_51 rfl (lv_at hl 0 rfl) ?_
    refine pw_get S w pm_FM 0 rfl 1 (by decide) eM_50 (v := .int (nI mt)) rfl dM_begin_52 ?_
    refine pw_iast S w 5 0 (a := ad 4) (f := si1) (n := 5) (cA := cI) rfl rfl (j := n1) (by omega) (by decide) dM_begin_55 (fun H locs w => ?_)
    have w : pw_S D [(cI, .int)] A (pm_W m0 ad cI cd mt mf fd n1 (upd sc1 n1 a) (upd gl1 n1 b) (upd nu1 n1 d3) (upd si1 n1 (nI mt)) wh1 pl1 sm ms mg mn mk md) s _ _ := w
    refine lv_aload_n hx hb dM_begin_56 rfl (lv_at hl 0 rfl) ?_
    refine pw_get S w pm_FM 0 rfl 9 (by decide) eM_25 (v := .ref (ad 5)) rfl dM_begin_57 ?_
    refine lv_aload_n hx hb dM_begin_60 rfl (lv_at hl 0 rfl) ?_
    refine pw_get S w pm_FM 0 rfl 4 (by decide) eM_43 (v := .int (nI n1)) rfl dM_begin_61 ?_
    refine lv_iload hx hb dM_begin_64 (lv_at hl 4 rfl) ?_
    refine pw_iast S w 6 0 (a := ad 5) (f := wh1) (n := 5) (cA := cI) rfl rfl (j := n1) (by omega) (by decide) dM_begin_66 (fun H locs w => ?_)
    have w : pw_S D [(cI, .int)] A (pm_W m0 ad cI cd mt mf fd n1 (upd sc1 n1 a) (upd gl1 n1 b) (upd nu1 n1 d3) (upd si1 n1 (nI mt)) (upd wh1 n1 wl) pl1 sm ms mg mn mk md) s _ _ := w
    refine lv_iconst (v := 0) hx hb dM_begin_67 (by decide) ?_
    refine lv_istore (lv' := [(5, .int 0), (0, .ref m0), (1, .int a), (2, .int b), (3, .int d3), (4, .int wl)]) hx hb dM_begin_68 hl (by decide) rfl (fun ls hl => ?_)
    have loop : ∀ (n : Nat) (i : Nat), i ≤ 1480 → 1480 < i + n → ∀ (H : Heap) (locs : List Loc), pw_S D [(cI, .int)] A (pm_W m0 ad cI cd mt mf fd n1 (upd sc1 n1 a) (upd gl1 n1 b) (upd nu1 n1 d3) (upd si1 n1 (nI mt)) (upd wh1 n1 wl) (pm_fl pl1 (1480 * n1) i) sm ms mg mn mk md) s H locs → ∀ (ls : Array Slot), lv_has ls 6 [(5, .int (nI i)), (0, .ref m0), (1, .int a), (2, .int b), (3, .int d3), (4, .int wl)] → W p l e ({ frames := 1, cells := 0, slots := 0, locals := 60 }) s m #[Value.ref m0, Value.int a, Value.int b, Value.int d3, Value.int wl] below meth c H locs 0 0 (MQ below (va_Qv (S := Unit) (fun _ => True) (pw_B D (fun _ => pm_W m0 ad cI cd mt mf fd (pm_mkn ct + 1) (upd (pm_mk ct sc) (pm_mkn ct) a) (upd (pm_mk ct gl) (pm_mkn ct) b) (upd (pm_mk ct nu) (pm_mkn ct) d3) (upd (pm_mk ct si) (pm_mkn ct) (nI mt)) (upd (pm_mk ct wh) (pm_mkn ct) wl) (pm_fl (pm_mk2 ct pl) (1480 * pm_mkn ct) 1480) sm ms mg mn mk md) (fun _ => [(cI, .int)]) A) A) #[Value.ref m0, Value.int a, Value.int b, Value.int d3, Value.int wl] s 0 0 A) (F0 m 70 ls []) := by
      intro n
      induction n with
      | zero => intros; omega
      | succ n ih =>
        intro i hi hn H locs w ls hl
        refine lv_iload hx hb dM_begin_70 (lv_at hl 0 rfl) ?_
        refine lv_sipush (v := 1480) hx hb dM_begin_72 (by decide) ?_
        refine lv_icmp_ge (tgt := 101) hx hb dM_begin_75 (by decide) (fun h1 => ?_) (fun h1 => ?_)
        · have e9 : i = 1480 := by have := (nI_leI (a := 1480) (b := i) (by decide) (by omega)).mp h1; omega
          subst e9
          refine lv_aload_n hx hb dM_begin_101 rfl (lv_at hl 1 rfl) ?_
          refine lv_dup hx hb dM_begin_102 rfl ?_
          refine pw_get S w pm_FM 0 rfl 4 (by decide) eM_43 (v := .int (nI n1)) rfl dM_begin_103 ?_
          refine lv_iconst (v := 1) hx hb dM_begin_106 (by decide) ?_
          refine lv_iadd hx hb dM_begin_107 ?_
          refine pw_top (y := nI (n1 + 1)) (nI_1 n1) ?_
          refine pw_put S w pm_FM 0 (fs := [.int cd, .int (nI mt), .int (nI mf), .ref (ad 0), .int (nI n1), .ref (ad 1), .ref (ad 2), .ref (ad 3), .ref (ad 4), .ref (ad 5), .ref (ad 6), .int sm, .int ms, .int mg, .int mn, .int mk, .ref (ad 7)]) rfl 4 (by decide) eM_43 rfl (v := .int (nI (n1 + 1))) rfl rfl (Nat.le_of_ble_eq_true rfl) dM_begin_108 (fun H locs w => ?_)
          have w : pw_S D [(cI, .int)] A (pm_W m0 ad cI cd mt mf fd (n1 + 1) (upd sc1 n1 a) (upd gl1 n1 b) (upd nu1 n1 d3) (upd si1 n1 (nI mt)) (upd wh1 n1 wl) (pm_fl pl1 (1480 * n1) 1480) sm ms mg mn mk md) s _ _ := w
          subst e1 e2 e3 e4 e5 e6 e7
          exact pw_retv S hr hlk () w trivial (by decide) (by decide) dM_begin_111
        · have hlt : i < 1480 := Nat.lt_of_not_le (fun q => h1 ((nI_leI (a := 1480) (b := i) (by decide) (by omega)).mpr q))
          refine lv_aload_n hx hb dM_begin_78 rfl (lv_at hl 1 rfl) ?_
          refine pw_get S w pm_FM 0 rfl 10 (by decide) eM_28 (v := .ref (ad 6)) rfl dM_begin_79 ?_
          refine lv_sipush (v := 1480) hx hb dM_begin_82 (by decide) ?_
          refine lv_aload_n hx hb dM_begin_85 rfl (lv_at hl 1 rfl) ?_
          refine pw_get S w pm_FM 0 rfl 4 (by decide) eM_43 (v := .int (nI n1)) rfl dM_begin_86 ?_
          refine lv_imul hx hb dM_begin_89 ?_
          refine lv_iload hx hb dM_begin_90 (lv_at hl 0 rfl) ?_
          refine lv_iadd hx hb dM_begin_92 ?_
          refine pw_top (y := nI (1480 * n1 + i)) (pm_ix n1 i) ?_
          refine lv_iconst (v := (-1)) hx hb dM_begin_93 (by decide) ?_
          refine pw_iast S w 7 0 (a := ad 6) (f := pm_fl pl1 (1480 * n1) i) (n := 7400) (cA := cI) rfl rfl (j := 1480 * n1 + i) (by omega) (by decide) dM_begin_94 (fun H locs w => ?_)
          have w : pw_S D [(cI, .int)] A (pm_W m0 ad cI cd mt mf fd n1 (upd sc1 n1 a) (upd gl1 n1 b) (upd nu1 n1 d3) (upd si1 n1 (nI mt)) (upd wh1 n1 wl) (upd (pm_fl pl1 (1480 * n1) i) (1480 * n1 + i) (-1)) sm ms mg mn mk md) s _ _ := w
          have w : pw_S D [(cI, .int)] A (pm_W m0 ad cI cd mt mf fd n1 (upd sc1 n1 a) (upd gl1 n1 b) (upd nu1 n1 d3) (upd si1 n1 (nI mt)) (upd wh1 n1 wl) (pm_fl pl1 (1480 * n1) (i + 1)) sm ms mg mn mk md) s _ _ := w.to (by rw [pm_fl_s])
          refine lv_iinc (v := nI (i + 1)) (lv' := [(5, .int (nI (i + 1))), (0, .ref m0), (1, .int a), (2, .int b), (3, .int d3), (4, .int wl)]) hx hb dM_begin_95 hl (k := 0) rfl (nI_1 i) (by decide) rfl (fun ls hl => ?_)
          refine lv_goto (tgt := 70) hx hb dM_begin_98 (by decide) ?_
          exact ih (i + 1) (by omega) (by omega) H locs w ls hl
    exact loop 1481 0 (by omega) (by omega) _ _ (w.to (by rw [pm_fl_0])) ls hl
  refine lv_aload_n hx hb dM_begin_0 rfl (lv_at hl 0 rfl) ?_
  refine pw_get S w pm_FM 0 rfl 4 (by decide) eM_43 (v := .int (nI ct)) rfl dM_begin_1 ?_
  refine lv_iconst (v := 4) hx hb dM_begin_4 (by decide) ?_
  refine lv_icmp_ne (tgt := 13) hx hb dM_begin_5 (by decide) (fun h1 => ?_) (fun h1 => ?_)
  · have hn4 : ct ≠ 4 := fun q => h1 (by rw [q]; rfl)
    exact tail ct sc gl nu si wh pl (if_neg hn4).symm (if_neg hn4).symm (if_neg hn4).symm (if_neg hn4).symm (if_neg hn4).symm (if_neg hn4).symm (if_neg hn4).symm (by omega) _ _ w ls hl
  · have hn4 : ct = 4 := (nI_eq (a := ct) (b := 4) (by omega) (by decide)).mp h1
    refine lv_aload_n hx hb dM_begin_8 rfl (lv_at hl 0 rfl) ?_
    refine lv_iconst (v := 0) hx hb dM_begin_9 (by decide) ?_
    refine pw_top (y := nI 0) rfl ?_
    refine pw_gov0 w.all (va_runV (C := RM) (As := [.int (nI 0)]) (rest := []) S (pm_c_forget l D m0 ad cI cd mt mf fd ct sc gl nu si wh pl sm ms mg mn mk md _ 0 (by omega) hct) (pw_cw (n := 1) S eM_46 iM_forget sM_forget iniM kM_forget rfl rfl (by decide +kernel) ⟨by decide, by decide⟩) ⟨pw_blind, va_recv w.1 w.2.1 (ci := cM) (q0 := 0) rfl rfl, pw_pre w.all w.1⟩ rfl rfl hl.1 rfl (lv_room (Nat.le_of_ble_eq_true rfl)) dM_begin_10 ⟨Nat.zero_le _, Nat.zero_le _⟩) (fun  u H locs _ _ w => ?_)
    have w := w.one
    subst hn4
    exact tail 3 _ _ _ _ _ _ rfl rfl rfl rfl rfl rfl rfl (by omega) _ _ w ls hl

set_option maxHeartbeats 4000000 in
set_option maxRecDepth 100000 in
/-- the reference: finish -/
theorem pm_c_finish (l : Launch) (D : va_G) (m0 : Nat) (ad : Nat → Nat) (cI : ClassId) (cd : Int32) (mt : Nat) (mf : Nat) (fd : Nat → Int32) (ct : Nat) (sc : Nat → Int32) (gl : Nat → Int32) (nu : Nat → Int32) (si : Nat → Int32) (wh : Nat → Int32) (pl : Nat → Int32) (sm : Int32) (ms : Int32) (mg : Int32) (mn : Int32) (mk : Int32) (md : Nat → Int32) (sz : Nat) (k : Nat) (hk : k < ct) (hct : ct ≤ 4) (wn : Nat) (hw : wh k = nI wn) (hwn : wn ≤ 1480) : pw_Mv l yM_finish cM_finish 3 ({ frames := 1, cells := 0, slots := 0, locals := 60 }) D [(cI, .int)] [.ref m0, .int (nI k)] (pm_W m0 ad cI cd mt mf fd ct sc gl nu si wh pl sm ms mg mn mk md) sz (σ := Unit) (fun _ => True) (fun _ => pm_W m0 ad cI cd mt mf fd (ct - 1) (pm_s1 sc k (ct - 1)) (pm_s1 gl k (ct - 1)) (pm_s1 nu k (ct - 1)) (pm_s1 si k (ct - 1)) (pm_s1 wh k (ct - 1)) (pm_s2 pl (1480 * k) (1480 * (ct - 1))) 1 (sc k) (gl k) (nu k) (wh k) (pm_cp md pl (1480 * k) wn)) (fun _ => [(cI, .int)]) 0 0 := by
  refine pw_openV (by decide) (Nat.le_of_ble_eq_true rfl) ?_
  intro p e s m below meth c ls S hr hlk hnm hl hsz w
  obtain ⟨hx, hb, hml, hown, hts⟩ := id S
  have hl : lv_has ls 3 [(0, .ref m0), (1, .int (nI k))] := hl
  generalize va_A (pm_W m0 ad cI cd mt mf fd ct sc gl nu si wh pl sm ms mg mn mk md) sz = A at w ⊢
  refine lv_aload_n hx hb dM_finish_0 rfl (lv_at hl 0 rfl) ?_
  refine lv_iconst (v := 1) hx hb dM_finish_1 (by decide) ?_
  refine pw_put S w pm_FM 0 (fs := [.int cd, .int (nI mt), .int (nI mf), .ref (ad 0), .int (nI ct), .ref (ad 1), .ref (ad 2), .ref (ad 3), .ref (ad 4), .ref (ad 5), .ref (ad 6), .int sm, .int ms, .int mg, .int mn, .int mk, .ref (ad 7)]) rfl 11 (by decide) eM_53 rfl (v := .int 1) rfl rfl (Nat.le_of_ble_eq_true rfl) dM_finish_2 (fun H locs w => ?_)
  have w : pw_S D [(cI, .int)] A (pm_W m0 ad cI cd mt mf fd ct sc gl nu si wh pl 1 ms mg mn mk md) s _ _ := w
  refine lv_aload_n hx hb dM_finish_5 rfl (lv_at hl 0 rfl) ?_
  refine lv_aload_n hx hb dM_finish_6 rfl (lv_at hl 0 rfl) ?_
  refine pw_get S w pm_FM 0 rfl 5 (by decide) eM_13 (v := .ref (ad 1)) rfl dM_finish_7 ?_
  refine lv_iload_n hx hb dM_finish_10 rfl (lv_at hl 1 rfl) ?_
  refine pw_iald S w 2 0 (a := ad 1) (f := sc) (n := 5) (cA := cI) rfl rfl (j := k) (by omega) (by decide) dM_finish_11 ?_
  refine pw_put S w pm_FM 0 (fs := [.int cd, .int (nI mt), .int (nI mf), .ref (ad 0), .int (nI ct), .ref (ad 1), .ref (ad 2), .ref (ad 3), .ref (ad 4), .ref (ad 5), .ref (ad 6), .int 1, .int ms, .int mg, .int mn, .int mk, .ref (ad 7)]) rfl 12 (by decide) eM_57 rfl (v := .int (sc k)) rfl rfl (Nat.le_of_ble_eq_true rfl) dM_finish_12 (fun H locs w => ?_)
  have w : pw_S D [(cI, .int)] A (pm_W m0 ad cI cd mt mf fd ct sc gl nu si wh pl 1 (sc k) mg mn mk md) s _ _ := w
  refine lv_aload_n hx hb dM_finish_15 rfl (lv_at hl 0 rfl) ?_
  refine lv_aload_n hx hb dM_finish_16 rfl (lv_at hl 0 rfl) ?_
  refine pw_get S w pm_FM 0 rfl 6 (by decide) eM_16 (v := .ref (ad 2)) rfl dM_finish_17 ?_
  refine lv_iload_n hx hb dM_finish_20 rfl (lv_at hl 1 rfl) ?_
  refine pw_iald S w 3 0 (a := ad 2) (f := gl) (n := 5) (cA := cI) rfl rfl (j := k) (by omega) (by decide) dM_finish_21 ?_
  refine pw_put S w pm_FM 0 (fs := [.int cd, .int (nI mt), .int (nI mf), .ref (ad 0), .int (nI ct), .ref (ad 1), .ref (ad 2), .ref (ad 3), .ref (ad 4), .ref (ad 5), .ref (ad 6), .int 1, .int (sc k), .int mg, .int mn, .int mk, .ref (ad 7)]) rfl 13 (by decide) eM_60 rfl (v := .int (gl k)) rfl rfl (Nat.le_of_ble_eq_true rfl) dM_finish_22 (fun H locs w => ?_)
  have w : pw_S D [(cI, .int)] A (pm_W m0 ad cI cd mt mf fd ct sc gl nu si wh pl 1 (sc k) (gl k) mn mk md) s _ _ := w
  refine lv_aload_n hx hb dM_finish_25 rfl (lv_at hl 0 rfl) ?_
  refine lv_aload_n hx hb dM_finish_26 rfl (lv_at hl 0 rfl) ?_
  refine pw_get S w pm_FM 0 rfl 7 (by decide) eM_19 (v := .ref (ad 3)) rfl dM_finish_27 ?_
  refine lv_iload_n hx hb dM_finish_30 rfl (lv_at hl 1 rfl) ?_
  refine pw_iald S w 4 0 (a := ad 3) (f := nu) (n := 5) (cA := cI) rfl rfl (j := k) (by omega) (by decide) dM_finish_31 ?_
  refine pw_put S w pm_FM 0 (fs := [.int cd, .int (nI mt), .int (nI mf), .ref (ad 0), .int (nI ct), .ref (ad 1), .ref (ad 2), .ref (ad 3), .ref (ad 4), .ref (ad 5), .ref (ad 6), .int 1, .int (sc k), .int (gl k), .int mn, .int mk, .ref (ad 7)]) rfl 14 (by decide) eM_63 rfl (v := .int (nu k)) rfl rfl (Nat.le_of_ble_eq_true rfl) dM_finish_32 (fun H locs w => ?_)
  have w : pw_S D [(cI, .int)] A (pm_W m0 ad cI cd mt mf fd ct sc gl nu si wh pl 1 (sc k) (gl k) (nu k) mk md) s _ _ := w
  refine lv_aload_n hx hb dM_finish_35 rfl (lv_at hl 0 rfl) ?_
  refine lv_aload_n hx hb dM_finish_36 rfl (lv_at hl 0 rfl) ?_
  refine pw_get S w pm_FM 0 rfl 9 (by decide) eM_25 (v := .ref (ad 5)) rfl dM_finish_37 ?_
  refine lv_iload_n hx hb dM_finish_40 rfl (lv_at hl 1 rfl) ?_
  refine pw_iald S w 6 0 (a := ad 5) (f := wh) (n := 5) (cA := cI) rfl rfl (j := k) (by omega) (by decide) dM_finish_41 ?_
  refine pw_put S w pm_FM 0 (fs := [.int cd, .int (nI mt), .int (nI mf), .ref (ad 0), .int (nI ct), .ref (ad 1), .ref (ad 2), .ref (ad 3), .ref (ad 4), .ref (ad 5), .ref (ad 6), .int 1, .int (sc k), .int (gl k), .int (nu k), .int mk, .ref (ad 7)]) rfl 15 (by decide) eM_66 rfl (v := .int (wh k)) rfl rfl (Nat.le_of_ble_eq_true rfl) dM_finish_42 (fun H locs w => ?_)
  have w : pw_S D [(cI, .int)] A (pm_W m0 ad cI cd mt mf fd ct sc gl nu si wh pl 1 (sc k) (gl k) (nu k) (wh k) md) s _ _ := w
  refine lv_iconst (v := 0) hx hb dM_finish_45 (by decide) ?_
  refine lv_istore_n (lv' := [(2, .int 0), (0, .ref m0), (1, .int (nI k))]) hx hb dM_finish_46 rfl hl (by decide) rfl (fun ls hl => ?_)
  have loop : ∀ (n : Nat) (i : Nat), i ≤ wn → wn < i + n → ∀ (H : Heap) (locs : List Loc), pw_S D [(cI, .int)] A (pm_W m0 ad cI cd mt mf fd ct sc gl nu si wh pl 1 (sc k) (gl k) (nu k) (wh k) (pm_cp md pl (1480 * k) i)) s H locs → ∀ (ls : Array Slot), lv_has ls 3 [(2, .int (nI i)), (0, .ref m0), (1, .int (nI k))] → W p l e ({ frames := 1, cells := 0, slots := 0, locals := 60 }) s m #[Value.ref m0, Value.int (nI k)] below meth c H locs 0 0 (MQ below (va_Qv (S := Unit) (fun _ => True) (pw_B D (fun _ => pm_W m0 ad cI cd mt mf fd (ct - 1) (pm_s1 sc k (ct - 1)) (pm_s1 gl k (ct - 1)) (pm_s1 nu k (ct - 1)) (pm_s1 si k (ct - 1)) (pm_s1 wh k (ct - 1)) (pm_s2 pl (1480 * k) (1480 * (ct - 1))) 1 (sc k) (gl k) (nu k) (wh k) (pm_cp md pl (1480 * k) wn)) (fun _ => [(cI, .int)]) A) A) #[Value.ref m0, Value.int (nI k)] s 0 0 A) (F0 m 47 ls []) := by
    intro n
    induction n with
    | zero => intros; omega
    | succ n ih =>
      intro i hi hn H locs w ls hl
      refine lv_iload_n hx hb dM_finish_47 rfl (lv_at hl 0 rfl) ?_
      refine lv_aload_n hx hb dM_finish_48 rfl (lv_at hl 1 rfl) ?_
      refine pw_get S w pm_FM 0 rfl 15 (by decide) eM_66 (v := .int (wh k)) rfl dM_finish_49 ?_
      refine pw_top (y := nI wn) hw ?_
      refine lv_icmp_ge (tgt := 79) hx hb dM_finish_52 (by decide) (fun h1 => ?_) (fun h1 => ?_)
      · have e9 : i = wn := by have := (nI_leI (a := wn) (b := i) (by omega) (by omega)).mp h1; omega
        subst e9
        refine lv_aload_n hx hb dM_finish_79 rfl (lv_at hl 1 rfl) ?_
        refine lv_iload_n hx hb dM_finish_80 rfl (lv_at hl 2 rfl) ?_
        refine pw_gov0 w.all (va_runV (C := RM) (As := [.int (nI k)]) (rest := []) S (pm_c_forget l D m0 ad cI cd mt mf fd ct sc gl nu si wh pl 1 (sc k) (gl k) (nu k) (wh k) (pm_cp md pl (1480 * k) i) _ k hk hct) (pw_cw (n := 1) S eM_46 iM_forget sM_forget iniM kM_forget rfl rfl (by decide +kernel) ⟨by decide, by decide⟩) ⟨pw_blind, va_recv w.1 w.2.1 (ci := cM) (q0 := 0) rfl rfl, pw_pre w.all w.1⟩ rfl rfl hl.1 rfl (lv_room (Nat.le_of_ble_eq_true rfl)) dM_finish_81 ⟨Nat.zero_le _, Nat.zero_le _⟩) (fun  u H locs _ _ w => ?_)
        have w := w.one
        exact pw_retv S hr hlk () w trivial (by decide) (by decide) dM_finish_84
      · have hlt : i < wn := Nat.lt_of_not_le (fun q => h1 ((nI_leI (a := wn) (b := i) (by omega) (by omega)).mpr q))
        refine lv_aload_n hx hb dM_finish_55 rfl (lv_at hl 1 rfl) ?_
        refine pw_get S w pm_FM 0 rfl 16 (by decide) eM_31 (v := .ref (ad 7)) rfl dM_finish_56 ?_
        refine lv_iload_n hx hb dM_finish_59 rfl (lv_at hl 0 rfl) ?_
        refine lv_aload_n hx hb dM_finish_60 rfl (lv_at hl 1 rfl) ?_
        refine pw_get S w pm_FM 0 rfl 10 (by decide) eM_28 (v := .ref (ad 6)) rfl dM_finish_61 ?_
        refine lv_sipush (v := 1480) hx hb dM_finish_64 (by decide) ?_
        refine lv_iload_n hx hb dM_finish_67 rfl (lv_at hl 2 rfl) ?_
        refine lv_imul hx hb dM_finish_68 ?_
        refine lv_iload_n hx hb dM_finish_69 rfl (lv_at hl 0 rfl) ?_
        refine lv_iadd hx hb dM_finish_70 ?_
        refine pw_top (y := nI (1480 * k + i)) (pm_ix k i) ?_
        refine pw_iald S w 7 0 (a := ad 6) (f := pl) (n := 7400) (cA := cI) rfl rfl (j := 1480 * k + i) (by omega) (by decide) dM_finish_71 ?_
        refine pw_iast S w 8 0 (a := ad 7) (f := pm_cp md pl (1480 * k) i) (n := 1480) (cA := cI) rfl rfl (j := i) (by omega) (by decide) dM_finish_72 (fun H locs w => ?_)
        have w : pw_S D [(cI, .int)] A (pm_W m0 ad cI cd mt mf fd ct sc gl nu si wh pl 1 (sc k) (gl k) (nu k) (wh k) (upd (pm_cp md pl (1480 * k) i) i (pl (1480 * k + i)))) s _ _ := w
        have w : pw_S D [(cI, .int)] A (pm_W m0 ad cI cd mt mf fd ct sc gl nu si wh pl 1 (sc k) (gl k) (nu k) (wh k) (pm_cp md pl (1480 * k) (i + 1))) s _ _ := w.to (by rw [pm_cp_s])
        refine lv_iinc (v := nI (i + 1)) (lv' := [(2, .int (nI (i + 1))), (0, .ref m0), (1, .int (nI k))]) hx hb dM_finish_73 hl (k := 0) rfl (nI_1 i) (by decide) rfl (fun ls hl => ?_)
        refine lv_goto (tgt := 47) hx hb dM_finish_76 (by decide) ?_
        exact ih (i + 1) (by omega) (by omega) H locs w ls hl
  exact loop (wn + 1) 0 (by omega) (by omega) _ _ (w.to (by rw [pm_cp_0])) ls hl

set_option maxHeartbeats 4000000 in
set_option maxRecDepth 100000 in
/-- the reference: feed -/
theorem pm_c_feed (l : Launch) (D : va_G) (m0 : Nat) (ad : Nat → Nat) (cI : ClassId) (cd : Int32) (mt : Nat) (mf : Nat) (fd : Nat → Int32) (ct : Nat) (sc : Nat → Int32) (gl : Nat → Int32) (nu : Nat → Int32) (si : Nat → Int32) (wh : Nat → Int32) (pl : Nat → Int32) (sm : Int32) (ms : Int32) (mg : Int32) (mn : Int32) (mk : Int32) (md : Nat → Int32) (sz : Nat) (hmf : mf ≤ 1480) (x : Int64) (n : Int32) : pw_Mi l yM_feed cM_feed 5 .int ({ frames := 0, cells := 0, slots := 0, locals := 0 }) D [(cI, .int)] [.ref m0, .long x, .int n] (pm_W m0 ad cI cd mt mf fd ct sc gl nu si wh pl sm ms mg mn mk md) sz (σ := Int32 × Nat × (Nat → Int32)) (fun r u => (u = (1, mf, fd) ∧ ¬ (1 ≤ n.toInt ∧ n.toInt ≤ 8)) ∨ (u = (2, mf, fd) ∧ (1 ≤ n.toInt ∧ n.toInt ≤ 8) ∧ 1480 < (mf : Int) + n.toInt) ∨ ∃ n9, 1 ≤ n9 ∧ n9 ≤ 8 ∧ n = nI n9 ∧ mf + n9 ≤ 1480 ∧ u = (0, mf + n9, pm_fd fd mf x n9 n9) ∧ r = nI (mf + n9)) (fun u => pm_W m0 ad cI u.1 mt u.2.1 u.2.2 ct sc gl nu si wh pl sm ms mg mn mk md) 0 0 := by
  refine pw_openI (by decide) (Nat.le_of_ble_eq_true rfl) ?_
  intro p e s m below meth c ls S hr hlk hl hsz w
  obtain ⟨hx, hb, hml, hown, hts⟩ := id S
  have hl : lv_has ls 5 [(0, .ref m0), (1, .long x), (3, .int n)] := hl
  generalize va_A (pm_W m0 ad cI cd mt mf fd ct sc gl nu si wh pl sm ms mg mn mk md) sz = A at w ⊢
  refine lv_aload_n hx hb dM_feed_0 rfl (lv_at hl 0 rfl) ?_
  refine lv_iload_n hx hb dM_feed_1 rfl (lv_at hl 2 rfl) ?_
  refine lv_iconst (v := 1) hx hb dM_feed_2 (by decide) ?_
  refine lv_icmp_lt (tgt := 12) hx hb dM_feed_3 (by decide) (fun h1 => ?_) (fun h1 => ?_)
  · refine lv_iconst (v := 1) hx hb dM_feed_12 (by decide) ?_
    refine lv_goto (tgt := 33) hx hb dM_feed_13 (by decide) ?_
    refine pw_put S w pm_FM 0 (fs := [.int cd, .int (nI mt), .int (nI mf), .ref (ad 0), .int (nI ct), .ref (ad 1), .ref (ad 2), .ref (ad 3), .ref (ad 4), .ref (ad 5), .ref (ad 6), .int sm, .int ms, .int mg, .int mn, .int mk, .ref (ad 7)]) rfl 0 (by decide) eM_34 rfl (v := .int 1) rfl rfl (Nat.le_of_ble_eq_true rfl) dM_feed_33 (fun H locs w => ?_)
    have w : pw_S D [(cI, .int)] A (pm_W m0 ad cI 1 mt mf fd ct sc gl nu si wh pl sm ms mg mn mk md) s _ _ := w
    refine lv_aload_n hx hb dM_feed_36 rfl (lv_at hl 0 rfl) ?_
    refine pw_get S w pm_FM 0 rfl 0 (by decide) eM_34 (v := .int 1) rfl dM_feed_37 ?_
    refine lv_if_le (tgt := 45) hx hb dM_feed_40 (by decide) (fun h9 => absurd h9 (by decide)) (fun _ => ?_)
    refine lv_iconst (v := 0) hx hb dM_feed_43 (by decide) ?_
    exact pw_reti S hr hlk (1, mf, fd) w (Or.inl ⟨rfl, fun q => absurd q.1 (by have h9 := Int32.lt_iff_toInt_lt.mp h1; have : (1 : Int32).toInt = 1 := rfl; omega)⟩) (by decide) (by decide) dM_feed_44
  · refine lv_iload_n hx hb dM_feed_6 rfl (lv_at hl 2 rfl) ?_
    refine lv_bipush (v := 8) hx hb dM_feed_7 (by decide) ?_
    refine lv_icmp_le (tgt := 16) hx hb dM_feed_9 (by decide) (fun h2 => ?_) (fun h2 => ?_)
    · have hn1 : 1 ≤ n.toInt := by have h9 := pw_nlt h1; have : (1 : Int32).toInt = 1 := rfl; omega
      have hn8 : n.toInt ≤ 8 := by have h9 := Int32.le_iff_toInt_le.mp h2; have : (8 : Int32).toInt = 8 := rfl; omega
      obtain ⟨n9, hn9, rfl⟩ := nI_of (x := n) (by rw [Int32.lt_iff_toInt_lt]; have : (0 : Int32).toInt = 0 := rfl; omega)
      rw [nI_toInt hn9] at hn1 hn8
      clear h1 h2
      refine lv_aload_n hx hb dM_feed_16 rfl (lv_at hl 0 rfl) ?_
      refine pw_get S w pm_FM 0 rfl 2 (by decide) eM_38 (v := .int (nI mf)) rfl dM_feed_17 ?_
      refine lv_iload_n hx hb dM_feed_20 rfl (lv_at hl 2 rfl) ?_
      refine lv_iadd hx hb dM_feed_21 ?_
      refine pw_top (y := nI (mf + n9)) (nI_add mf n9) ?_
      refine lv_sipush (v := 1480) hx hb dM_feed_22 (by decide) ?_
      refine lv_icmp_le (tgt := 32) hx hb dM_feed_25 (by decide) (fun h1 => ?_) (fun h1 => ?_)
      · have h9 : mf + n9 ≤ 1480 := (nI_leI (a := mf + n9) (b := 1480) (by omega) (by decide)).mp h1
        refine lv_iconst (v := 0) hx hb dM_feed_32 (by decide) ?_
        refine pw_put S w pm_FM 0 (fs := [.int cd, .int (nI mt), .int (nI mf), .ref (ad 0), .int (nI ct), .ref (ad 1), .ref (ad 2), .ref (ad 3), .ref (ad 4), .ref (ad 5), .ref (ad 6), .int sm, .int ms, .int mg, .int mn, .int mk, .ref (ad 7)]) rfl 0 (by decide) eM_34 rfl (v := .int 0) rfl rfl (Nat.le_of_ble_eq_true rfl) dM_feed_33 (fun H locs w => ?_)
        have w : pw_S D [(cI, .int)] A (pm_W m0 ad cI 0 mt mf fd ct sc gl nu si wh pl sm ms mg mn mk md) s _ _ := w
        refine lv_aload_n hx hb dM_feed_36 rfl (lv_at hl 0 rfl) ?_
        refine pw_get S w pm_FM 0 rfl 0 (by decide) eM_34 (v := .int 0) rfl dM_feed_37 ?_
        refine lv_if_le (tgt := 45) hx hb dM_feed_40 (by decide) (fun _ => ?_) (fun h9 => absurd (by decide) h9)
        refine lv_iload_n hx hb dM_feed_45 rfl (lv_at hl 2 rfl) ?_
        refine lv_iconst (v := 1) hx hb dM_feed_46 (by decide) ?_
        refine lv_isub hx hb dM_feed_47 ?_
        refine pw_top (y := nI (n9 - 1)) (px_pred (by omega)) ?_
        refine lv_istore (lv' := [(4, .int (nI (n9 - 1))), (0, .ref m0), (1, .long x), (3, .int (nI n9))]) hx hb dM_feed_48 hl (by decide) rfl (fun ls hl => ?_)
        have hst : nI (n9 - 1) = nI (n9 - 0) - 1 := by rw [Nat.sub_zero, px_pred (by omega)]
        rw [hst] at hl
        have loop : ∀ (n : Nat) (i : Nat), i ≤ n9 → n9 < i + n → ∀ (H : Heap) (locs : List Loc), pw_S D [(cI, .int)] A (pm_W m0 ad cI 0 mt (mf + i) (pm_fd fd mf x n9 i) ct sc gl nu si wh pl sm ms mg mn mk md) s H locs → ∀ (ls : Array Slot), lv_has ls 5 [(4, .int (nI (n9 - i) - 1)), (0, .ref m0), (1, .long x), (3, .int (nI n9))] → W p l e ({ frames := 0, cells := 0, slots := 0, locals := 0 }) s m #[Value.ref m0, Value.long x, Value.int (nI n9)] below meth c H locs 0 0 (MQ below (va_Qi (S := Int32 × Nat × (Nat → Int32)) (fun r u => (u = (1, mf, fd) ∧ ¬ (1 ≤ (nI n9).toInt ∧ (nI n9).toInt ≤ 8)) ∨ (u = (2, mf, fd) ∧ (1 ≤ (nI n9).toInt ∧ (nI n9).toInt ≤ 8) ∧ 1480 < (mf : Int) + (nI n9).toInt) ∨ ∃ n8, 1 ≤ n8 ∧ n8 ≤ 8 ∧ nI n9 = nI n8 ∧ mf + n8 ≤ 1480 ∧ u = (0, mf + n8, pm_fd fd mf x n8 n8) ∧ r = nI (mf + n8)) (pw_B D (fun u => pm_W m0 ad cI u.1 mt u.2.1 u.2.2 ct sc gl nu si wh pl sm ms mg mn mk md) (fun _ => [(cI, .int)]) A) A) #[Value.ref m0, Value.long x, Value.int (nI n9)] s 0 0 A) (F0 m 50 ls []) := by
          intro n
          induction n with
          | zero => intros; omega
          | succ n ih =>
            intro i hi hn H locs w ls hl
            refine lv_iload hx hb dM_feed_50 (lv_at hl 0 rfl) ?_
            refine lv_if_lt (tgt := 92) hx hb dM_feed_52 (by decide) (fun h2 => ?_) (fun h2 => ?_)
            · have e9 : i = n9 := by
                rcases Nat.lt_or_ge i n9 with z | z
                · rw [px_pred (by omega)] at h2; exact absurd h2 (nI_pos (by omega))
                · omega
              subst e9
              refine lv_aload_n hx hb dM_feed_92 rfl (lv_at hl 1 rfl) ?_
              refine pw_get S w pm_FM 0 rfl 2 (by decide) eM_38 (v := .int (nI (mf + i))) rfl dM_feed_93 ?_
              exact pw_reti S hr hlk (0, mf + i, pm_fd fd mf x i i) w (Or.inr (Or.inr ⟨i, by omega, by omega, rfl, by omega, rfl, rfl⟩)) (by decide) (by decide) dM_feed_96
            · have hlt : i < n9 := by
                rcases Nat.lt_or_ge i n9 with z | z
                · exact z
                · rw [show n9 - i = 0 by omega] at h2; exact absurd (by decide) h2
              have hk : nI (n9 - i) - 1 = nI (n9 - 1 - i) := by rw [px_pred (by omega)]; congr 1; omega
              rw [hk] at hl
              refine lv_aload_n hx hb dM_feed_55 rfl (lv_at hl 1 rfl) ?_
              refine pw_get S w pm_FM 0 rfl 3 (by decide) eM_7 (v := .ref (ad 0)) rfl dM_feed_56 ?_
              refine lv_aload_n hx hb dM_feed_59 rfl (lv_at hl 1 rfl) ?_
              refine pw_get S w pm_FM 0 rfl 2 (by decide) eM_38 (v := .int (nI (mf + i))) rfl dM_feed_60 ?_
              refine lv_lload_n hx hb dM_feed_63 rfl (lv_at hl 2 rfl) ?_
              refine lv_bipush (v := 8) hx hb dM_feed_64 (by decide) ?_
              refine lv_iload hx hb dM_feed_66 (lv_at hl 0 rfl) ?_
              refine lv_imul hx hb dM_feed_68 ?_
              refine lv_lshr hx hb dM_feed_69 rfl ?_
              refine lv_ldc2 (v := 255) hx hb hown (hts _ cM_41) dM_feed_70 ?_
              refine lv_land hx hb dM_feed_73 ?_
              refine lv_l2i hx hb dM_feed_74 rfl ?_
              refine pw_top (y := pm_by x (8 * nI (n9 - 1 - i))) rfl ?_
              refine pw_iast S w 1 0 (a := ad 0) (f := pm_fd fd mf x n9 i) (n := 1480) (cA := cI) rfl rfl (j := mf + i) (by omega) (by decide) dM_feed_75 (fun H locs w => ?_)
              have w : pw_S D [(cI, .int)] A (pm_W m0 ad cI 0 mt (mf + i) (upd (pm_fd fd mf x n9 i) (mf + i) (pm_by x (8 * nI (n9 - 1 - i)))) ct sc gl nu si wh pl sm ms mg mn mk md) s _ _ := w
              have w : pw_S D [(cI, .int)] A (pm_W m0 ad cI 0 mt (mf + i) (pm_fd fd mf x n9 (i + 1)) ct sc gl nu si wh pl sm ms mg mn mk md) s _ _ := w
              refine lv_aload_n hx hb dM_feed_76 rfl (lv_at hl 1 rfl) ?_
              refine lv_dup hx hb dM_feed_77 rfl ?_
              refine pw_get S w pm_FM 0 rfl 2 (by decide) eM_38 (v := .int (nI (mf + i))) rfl dM_feed_78 ?_
              refine lv_iconst (v := 1) hx hb dM_feed_81 (by decide) ?_
              refine lv_iadd hx hb dM_feed_82 ?_
              refine pw_top (y := nI (mf + (i + 1))) (nI_1 (mf + i)) ?_
              refine pw_put S w pm_FM 0 (fs := [.int 0, .int (nI mt), .int (nI (mf + i)), .ref (ad 0), .int (nI ct), .ref (ad 1), .ref (ad 2), .ref (ad 3), .ref (ad 4), .ref (ad 5), .ref (ad 6), .int sm, .int ms, .int mg, .int mn, .int mk, .ref (ad 7)]) rfl 2 (by decide) eM_38 rfl (v := .int (nI (mf + (i + 1)))) rfl rfl (Nat.le_of_ble_eq_true rfl) dM_feed_83 (fun H locs w => ?_)
              have w : pw_S D [(cI, .int)] A (pm_W m0 ad cI 0 mt (mf + (i + 1)) (pm_fd fd mf x n9 (i + 1)) ct sc gl nu si wh pl sm ms mg mn mk md) s _ _ := w
              refine lv_iinc (v := nI (n9 - (i + 1)) - 1) (lv' := [(4, .int (nI (n9 - (i + 1)) - 1)), (0, .ref m0), (1, .long x), (3, .int (nI n9))]) hx hb dM_feed_86 hl (k := 0) rfl (by rw [show n9 - (i + 1) = n9 - 1 - i by omega, Int32.sub_eq_add_neg]; rfl) (by decide) rfl (fun ls hl => ?_)
              refine lv_goto (tgt := 50) hx hb dM_feed_89 (by decide) ?_
              exact ih (i + 1) (by omega) (by omega) H locs w ls hl
        exact loop (n9 + 1) 0 (by omega) (by omega) _ _ w ls hl
      · have h9 : ¬ mf + n9 ≤ 1480 := fun q => h1 ((nI_leI (a := mf + n9) (b := 1480) (by omega) (by decide)).mpr q)
        refine lv_iconst (v := 2) hx hb dM_feed_28 (by decide) ?_
        refine lv_goto (tgt := 33) hx hb dM_feed_29 (by decide) ?_
        refine pw_put S w pm_FM 0 (fs := [.int cd, .int (nI mt), .int (nI mf), .ref (ad 0), .int (nI ct), .ref (ad 1), .ref (ad 2), .ref (ad 3), .ref (ad 4), .ref (ad 5), .ref (ad 6), .int sm, .int ms, .int mg, .int mn, .int mk, .ref (ad 7)]) rfl 0 (by decide) eM_34 rfl (v := .int 2) rfl rfl (Nat.le_of_ble_eq_true rfl) dM_feed_33 (fun H locs w => ?_)
        have w : pw_S D [(cI, .int)] A (pm_W m0 ad cI 2 mt mf fd ct sc gl nu si wh pl sm ms mg mn mk md) s _ _ := w
        refine lv_aload_n hx hb dM_feed_36 rfl (lv_at hl 0 rfl) ?_
        refine pw_get S w pm_FM 0 rfl 0 (by decide) eM_34 (v := .int 2) rfl dM_feed_37 ?_
        refine lv_if_le (tgt := 45) hx hb dM_feed_40 (by decide) (fun h9 => absurd h9 (by decide)) (fun _ => ?_)
        refine lv_iconst (v := 0) hx hb dM_feed_43 (by decide) ?_
        exact pw_reti S hr hlk (2, mf, fd) w (Or.inr (Or.inl ⟨rfl, by rw [nI_toInt hn9]; omega, by rw [nI_toInt hn9]; omega⟩)) (by decide) (by decide) dM_feed_44
    · refine lv_iconst (v := 1) hx hb dM_feed_12 (by decide) ?_
      refine lv_goto (tgt := 33) hx hb dM_feed_13 (by decide) ?_
      refine pw_put S w pm_FM 0 (fs := [.int cd, .int (nI mt), .int (nI mf), .ref (ad 0), .int (nI ct), .ref (ad 1), .ref (ad 2), .ref (ad 3), .ref (ad 4), .ref (ad 5), .ref (ad 6), .int sm, .int ms, .int mg, .int mn, .int mk, .ref (ad 7)]) rfl 0 (by decide) eM_34 rfl (v := .int 1) rfl rfl (Nat.le_of_ble_eq_true rfl) dM_feed_33 (fun H locs w => ?_)
      have w : pw_S D [(cI, .int)] A (pm_W m0 ad cI 1 mt mf fd ct sc gl nu si wh pl sm ms mg mn mk md) s _ _ := w
      refine lv_aload_n hx hb dM_feed_36 rfl (lv_at hl 0 rfl) ?_
      refine pw_get S w pm_FM 0 rfl 0 (by decide) eM_34 (v := .int 1) rfl dM_feed_37 ?_
      refine lv_if_le (tgt := 45) hx hb dM_feed_40 (by decide) (fun h9 => absurd h9 (by decide)) (fun _ => ?_)
      refine lv_iconst (v := 0) hx hb dM_feed_43 (by decide) ?_
      exact pw_reti S hr hlk (1, mf, fd) w (Or.inl ⟨rfl, fun q => absurd q.2 (by have h9 := pw_nle h2; have : (8 : Int32).toInt = 8 := rfl; omega)⟩) (by decide) (by decide) dM_feed_44
end
section
set_option maxHeartbeats 4000000 in
set_option maxRecDepth 100000 in
/-- the reference: pass -/
theorem pm_c_pass (l : Launch) (D : va_G) (m0 : Nat) (ad : Nat → Nat) (cI : ClassId) (cd : Int32) (mt : Nat) (mf : Nat) (fd : Nat → Int32) (ct : Nat) (sc : Nat → Int32) (gl : Nat → Int32) (nu : Nat → Int32) (si : Nat → Int32) (wh : Nat → Int32) (pl : Nat → Int32) (sm : Int32) (ms : Int32) (mg : Int32) (mn : Int32) (mk : Int32) (md : Nat → Int32) (sz : Nat) (hmt : mt ≤ 1000000000) (hct : ct ≤ 4) (n : Int32) : pw_Mi l yM_pass cM_pass 3 .int ({ frames := 1, cells := 0, slots := 0, locals := 60 }) D [(cI, .int)] [.ref m0, .int n] (pm_W m0 ad cI cd mt mf fd ct sc gl nu si wh pl sm ms mg mn mk md) sz (σ := Int32 × Nat × Nat × (Nat → Int32) × (Nat → Int32) × (Nat → Int32) × (Nat → Int32) × (Nat → Int32) × (Nat → Int32)) (fun r u => (u = (1, mt, ct, sc, gl, nu, si, wh, pl) ∧ ¬ (0 ≤ n.toInt ∧ n.toInt ≤ 1000000)) ∨ (u = (2, mt, ct, sc, gl, nu, si, wh, pl) ∧ (0 ≤ n.toInt ∧ n.toInt ≤ 1000000) ∧ 1000000000 < (mt : Int) + n.toInt) ∨ ∃ n9, n9 ≤ 1000000 ∧ n = nI n9 ∧ mt + n9 ≤ 1000000000 ∧ u = (0, mt + n9, pm_gv (mt + n9) ct ct sc gl nu si wh pl) ∧ r = nI (ct - (pm_gv (mt + n9) ct ct sc gl nu si wh pl).1)) (fun u => pm_W m0 ad cI u.1 u.2.1 mf fd u.2.2.1 u.2.2.2.1 u.2.2.2.2.1 u.2.2.2.2.2.1 u.2.2.2.2.2.2.1 u.2.2.2.2.2.2.2.1 u.2.2.2.2.2.2.2.2 sm ms mg mn mk md) 0 0 := by
  refine pw_openI (by decide) (Nat.le_of_ble_eq_true rfl) ?_
  intro p e s m below meth c ls S hr hlk hl hsz w
  obtain ⟨hx, hb, hml, hown, hts⟩ := id S
  have hl : lv_has ls 3 [(0, .ref m0), (1, .int n)] := hl
  generalize va_A (pm_W m0 ad cI cd mt mf fd ct sc gl nu si wh pl sm ms mg mn mk md) sz = A at w ⊢
  refine lv_aload_n hx hb dM_pass_0 rfl (lv_at hl 0 rfl) ?_
  refine lv_iload_n hx hb dM_pass_1 rfl (lv_at hl 1 rfl) ?_
  refine lv_if_lt (tgt := 11) hx hb dM_pass_2 (by decide) (fun h1 => ?_) (fun h1 => ?_)
  · refine lv_iconst (v := 1) hx hb dM_pass_11 (by decide) ?_
    refine lv_goto (tgt := 31) hx hb dM_pass_12 (by decide) ?_
    refine pw_put S w pm_FM 0 (fs := [.int cd, .int (nI mt), .int (nI mf), .ref (ad 0), .int (nI ct), .ref (ad 1), .ref (ad 2), .ref (ad 3), .ref (ad 4), .ref (ad 5), .ref (ad 6), .int sm, .int ms, .int mg, .int mn, .int mk, .ref (ad 7)]) rfl 0 (by decide) eM_34 rfl (v := .int 1) rfl rfl (Nat.le_of_ble_eq_true rfl) dM_pass_31 (fun H locs w => ?_)
    have w : pw_S D [(cI, .int)] A (pm_W m0 ad cI 1 mt mf fd ct sc gl nu si wh pl sm ms mg mn mk md) s _ _ := w
    refine lv_aload_n hx hb dM_pass_34 rfl (lv_at hl 0 rfl) ?_
    refine pw_get S w pm_FM 0 rfl 0 (by decide) eM_34 (v := .int 1) rfl dM_pass_35 ?_
    refine lv_if_le (tgt := 43) hx hb dM_pass_38 (by decide) (fun h9 => absurd h9 (by decide)) (fun _ => ?_)
    refine lv_iconst (v := 0) hx hb dM_pass_41 (by decide) ?_
    exact pw_reti S hr hlk (1, mt, ct, sc, gl, nu, si, wh, pl) w (Or.inl ⟨rfl, fun q => absurd q.1 (by have h9 := Int32.lt_iff_toInt_lt.mp h1; have : (0 : Int32).toInt = 0 := rfl; omega)⟩) (by decide) (by decide) dM_pass_42
  · refine lv_iload_n hx hb dM_pass_5 rfl (lv_at hl 1 rfl) ?_
    refine lv_ldc (v := 1000000) hx hb hown (hts _ cM_84) dM_pass_6 ?_
    refine lv_icmp_le (tgt := 15) hx hb dM_pass_8 (by decide) (fun h2 => ?_) (fun h2 => ?_)
    · have hn8 : n.toInt ≤ 1000000 := by have h9 := Int32.le_iff_toInt_le.mp h2; have : (1000000 : Int32).toInt = 1000000 := rfl; omega
      obtain ⟨n9, hn9, rfl⟩ := nI_of h1
      rw [nI_toInt hn9] at hn8
      clear h1 h2
      refine lv_aload_n hx hb dM_pass_15 rfl (lv_at hl 0 rfl) ?_
      refine pw_get S w pm_FM 0 rfl 1 (by decide) eM_50 (v := .int (nI mt)) rfl dM_pass_16 ?_
      refine lv_iload_n hx hb dM_pass_19 rfl (lv_at hl 1 rfl) ?_
      refine lv_iadd hx hb dM_pass_20 ?_
      refine pw_top (y := nI (mt + n9)) (nI_add mt n9) ?_
      refine lv_ldc (v := 1000000000) hx hb hown (hts _ cM_85) dM_pass_21 ?_
      refine lv_icmp_le (tgt := 30) hx hb dM_pass_23 (by decide) (fun h1 => ?_) (fun h1 => ?_)
      · have h9 : mt + n9 ≤ 1000000000 := (nI_leI (a := mt + n9) (b := 1000000000) (by omega) (by decide)).mp h1
        refine lv_iconst (v := 0) hx hb dM_pass_30 (by decide) ?_
        refine pw_put S w pm_FM 0 (fs := [.int cd, .int (nI mt), .int (nI mf), .ref (ad 0), .int (nI ct), .ref (ad 1), .ref (ad 2), .ref (ad 3), .ref (ad 4), .ref (ad 5), .ref (ad 6), .int sm, .int ms, .int mg, .int mn, .int mk, .ref (ad 7)]) rfl 0 (by decide) eM_34 rfl (v := .int 0) rfl rfl (Nat.le_of_ble_eq_true rfl) dM_pass_31 (fun H locs w => ?_)
        have w : pw_S D [(cI, .int)] A (pm_W m0 ad cI 0 mt mf fd ct sc gl nu si wh pl sm ms mg mn mk md) s _ _ := w
        refine lv_aload_n hx hb dM_pass_34 rfl (lv_at hl 0 rfl) ?_
        refine pw_get S w pm_FM 0 rfl 0 (by decide) eM_34 (v := .int 0) rfl dM_pass_35 ?_
        refine lv_if_le (tgt := 43) hx hb dM_pass_38 (by decide) (fun _ => ?_) (fun h9 => absurd (by decide) h9)
        refine lv_aload_n hx hb dM_pass_43 rfl (lv_at hl 0 rfl) ?_
        refine lv_dup hx hb dM_pass_44 rfl ?_
        refine pw_get S w pm_FM 0 rfl 1 (by decide) eM_50 (v := .int (nI mt)) rfl dM_pass_45 ?_
        refine lv_iload_n hx hb dM_pass_48 rfl (lv_at hl 1 rfl) ?_
        refine lv_iadd hx hb dM_pass_49 ?_
        refine pw_top (y := nI (mt + n9)) (nI_add mt n9) ?_
        refine pw_put S w pm_FM 0 (fs := [.int 0, .int (nI mt), .int (nI mf), .ref (ad 0), .int (nI ct), .ref (ad 1), .ref (ad 2), .ref (ad 3), .ref (ad 4), .ref (ad 5), .ref (ad 6), .int sm, .int ms, .int mg, .int mn, .int mk, .ref (ad 7)]) rfl 1 (by decide) eM_50 rfl (v := .int (nI (mt + n9))) rfl rfl (Nat.le_of_ble_eq_true rfl) dM_pass_50 (fun H locs w => ?_)
        have w : pw_S D [(cI, .int)] A (pm_W m0 ad cI 0 (mt + n9) mf fd ct sc gl nu si wh pl sm ms mg mn mk md) s _ _ := w
        refine lv_iconst (v := 0) hx hb dM_pass_53 (by decide) ?_
        refine lv_istore_n (lv' := [(2, .int 0), (0, .ref m0), (1, .int (nI n9))]) hx hb dM_pass_54 rfl hl (by decide) rfl (fun ls hl => ?_)
        have loop : ∀ (n : Nat) (i ct1 : Nat) (sc1 gl1 nu1 si1 wh1 pl1 : Nat → Int32), i ≤ ct → ct < i + n → ct1 + i = ct → pm_gv (mt + n9) ct ct sc gl nu si wh pl = pm_gv (mt + n9) (ct - i) ct1 sc1 gl1 nu1 si1 wh1 pl1 → ∀ (H : Heap) (locs : List Loc), pw_S D [(cI, .int)] A (pm_W m0 ad cI 0 (mt + n9) mf fd ct1 sc1 gl1 nu1 si1 wh1 pl1 sm ms mg mn mk md) s H locs → ∀ (ls : Array Slot), lv_has ls 3 [(2, .int (nI i)), (0, .ref m0), (1, .int (nI n9))] → W p l e ({ frames := 1, cells := 0, slots := 0, locals := 60 }) s m #[Value.ref m0, Value.int (nI n9)] below meth c H locs 0 0 (MQ below (va_Qi (S := Int32 × Nat × Nat × (Nat → Int32) × (Nat → Int32) × (Nat → Int32) × (Nat → Int32) × (Nat → Int32) × (Nat → Int32)) (fun r u => (u = (1, mt, ct, sc, gl, nu, si, wh, pl) ∧ ¬ (0 ≤ (nI n9).toInt ∧ (nI n9).toInt ≤ 1000000)) ∨ (u = (2, mt, ct, sc, gl, nu, si, wh, pl) ∧ (0 ≤ (nI n9).toInt ∧ (nI n9).toInt ≤ 1000000) ∧ 1000000000 < (mt : Int) + (nI n9).toInt) ∨ ∃ n8, n8 ≤ 1000000 ∧ nI n9 = nI n8 ∧ mt + n8 ≤ 1000000000 ∧ u = (0, mt + n8, pm_gv (mt + n8) ct ct sc gl nu si wh pl) ∧ r = nI (ct - (pm_gv (mt + n8) ct ct sc gl nu si wh pl).1)) (pw_B D (fun u => pm_W m0 ad cI u.1 u.2.1 mf fd u.2.2.1 u.2.2.2.1 u.2.2.2.2.1 u.2.2.2.2.2.1 u.2.2.2.2.2.2.1 u.2.2.2.2.2.2.2.1 u.2.2.2.2.2.2.2.2 sm ms mg mn mk md) (fun _ => [(cI, .int)]) A) A) #[Value.ref m0, Value.int (nI n9)] s 0 0 A) (F0 m 55 ls []) := by
          intro n
          induction n with
          | zero => intros; omega
          | succ n ih =>
            intro i ct1 sc1 gl1 nu1 si1 wh1 pl1 hi hn hci hgv H locs w ls hl
            refine lv_aload_n hx hb dM_pass_55 rfl (lv_at hl 1 rfl) ?_
            refine pw_get S w pm_FM 0 rfl 4 (by decide) eM_43 (v := .int (nI ct1)) rfl dM_pass_56 ?_
            refine lv_if_le (tgt := 90) hx hb dM_pass_59 (by decide) (fun h2 => ?_) (fun h2 => ?_)
            · have hz : ct1 = 0 := by have := (nI_leI (a := ct1) (b := 0) (by omega) (by decide)).mp h2; omega
              have e9 : pm_gv (mt + n9) ct ct sc gl nu si wh pl = (ct1, sc1, gl1, nu1, si1, wh1, pl1) := hgv.trans (by rw [show ct - i = 0 by omega]; rfl)
              refine lv_iload_n hx hb dM_pass_90 rfl (lv_at hl 0 rfl) ?_
              exact pw_reti S hr hlk (0, mt + n9, ct1, sc1, gl1, nu1, si1, wh1, pl1) w (Or.inr (Or.inr ⟨n9, by omega, rfl, by omega, by rw [e9], by rw [e9]; show nI i = nI (ct - ct1); congr 1; omega⟩)) (by decide) (by decide) dM_pass_91
            · have hpos : 0 < ct1 := Nat.pos_of_ne_zero (fun q => h2 (by rw [q]; exact nI_le (Nat.le_refl 0) (by decide)))
              refine lv_aload_n hx hb dM_pass_62 rfl (lv_at hl 1 rfl) ?_
              refine pw_get S w pm_FM 0 rfl 1 (by decide) eM_50 (v := .int (nI (mt + n9))) rfl dM_pass_63 ?_
              refine lv_aload_n hx hb dM_pass_66 rfl (lv_at hl 1 rfl) ?_
              refine pw_get S w pm_FM 0 rfl 8 (by decide) eM_22 (v := .ref (ad 4)) rfl dM_pass_67 ?_
              refine lv_iconst (v := 0) hx hb dM_pass_70 (by decide) ?_
              refine pw_top (y := nI 0) rfl ?_
              refine pw_iald S w 5 0 (a := ad 4) (f := si1) (n := 5) (cA := cI) rfl rfl (j := 0) (by omega) (by decide) dM_pass_71 ?_
              refine lv_isub hx hb dM_pass_72 ?_
              refine lv_sipush (v := 300) hx hb dM_pass_73 (by decide) ?_
              refine lv_icmp_lt (tgt := 90) hx hb dM_pass_76 (by decide) (fun h3 => ?_) (fun h3 => ?_)
              · have e9 : pm_gv (mt + n9) ct ct sc gl nu si wh pl = (ct1, sc1, gl1, nu1, si1, wh1, pl1) := hgv.trans (by rw [show ct - i = (ct - i - 1) + 1 by omega]; exact if_neg (fun q => q.2 h3))
                refine lv_iload_n hx hb dM_pass_90 rfl (lv_at hl 0 rfl) ?_
                exact pw_reti S hr hlk (0, mt + n9, ct1, sc1, gl1, nu1, si1, wh1, pl1) w (Or.inr (Or.inr ⟨n9, by omega, rfl, by omega, by rw [e9], by rw [e9]; show nI i = nI (ct - ct1); congr 1; omega⟩)) (by decide) (by decide) dM_pass_91
              · refine lv_aload_n hx hb dM_pass_79 rfl (lv_at hl 1 rfl) ?_
                refine lv_iconst (v := 0) hx hb dM_pass_80 (by decide) ?_
                refine pw_top (y := nI 0) rfl ?_
                refine pw_gov0 w.all (va_runV (C := RM) (As := [.int (nI 0)]) (rest := []) S (pm_c_forget l D m0 ad cI 0 (mt + n9) mf fd ct1 sc1 gl1 nu1 si1 wh1 pl1 sm ms mg mn mk md _ 0 hpos (by omega)) (pw_cw (n := 1) S eM_46 iM_forget sM_forget iniM kM_forget rfl rfl (by decide +kernel) ⟨by decide, by decide⟩) ⟨pw_blind, va_recv w.1 w.2.1 (ci := cM) (q0 := 0) rfl rfl, pw_pre w.all w.1⟩ rfl rfl hl.1 rfl (lv_room (Nat.le_of_ble_eq_true rfl)) dM_pass_81 ⟨Nat.zero_le _, Nat.zero_le _⟩) (fun  u H locs _ _ w => ?_)
                have w := w.one
                refine lv_iinc (v := nI (i + 1)) (lv' := [(2, .int (nI (i + 1))), (0, .ref m0), (1, .int (nI n9))]) hx hb dM_pass_84 hl (k := 0) rfl (nI_1 i) (by decide) rfl (fun ls hl => ?_)
                refine lv_goto (tgt := 55) hx hb dM_pass_87 (by decide) ?_
                exact ih (i + 1) (ct1 - 1) _ _ _ _ _ _ (by omega) (by omega) (by omega) (hgv.trans (by rw [show ct - i = (ct - (i + 1)) + 1 by omega]; exact if_pos ⟨hpos, h3⟩)) H locs w ls hl
        exact loop (ct + 1) 0 ct sc gl nu si wh pl (by omega) (by omega) (by omega) (by rw [Nat.sub_zero]) _ _ w ls hl
      · have h9 : ¬ mt + n9 ≤ 1000000000 := fun q => h1 ((nI_leI (a := mt + n9) (b := 1000000000) (by omega) (by decide)).mpr q)
        refine lv_iconst (v := 2) hx hb dM_pass_26 (by decide) ?_
        refine lv_goto (tgt := 31) hx hb dM_pass_27 (by decide) ?_
        refine pw_put S w pm_FM 0 (fs := [.int cd, .int (nI mt), .int (nI mf), .ref (ad 0), .int (nI ct), .ref (ad 1), .ref (ad 2), .ref (ad 3), .ref (ad 4), .ref (ad 5), .ref (ad 6), .int sm, .int ms, .int mg, .int mn, .int mk, .ref (ad 7)]) rfl 0 (by decide) eM_34 rfl (v := .int 2) rfl rfl (Nat.le_of_ble_eq_true rfl) dM_pass_31 (fun H locs w => ?_)
        have w : pw_S D [(cI, .int)] A (pm_W m0 ad cI 2 mt mf fd ct sc gl nu si wh pl sm ms mg mn mk md) s _ _ := w
        refine lv_aload_n hx hb dM_pass_34 rfl (lv_at hl 0 rfl) ?_
        refine pw_get S w pm_FM 0 rfl 0 (by decide) eM_34 (v := .int 2) rfl dM_pass_35 ?_
        refine lv_if_le (tgt := 43) hx hb dM_pass_38 (by decide) (fun h9 => absurd h9 (by decide)) (fun _ => ?_)
        refine lv_iconst (v := 0) hx hb dM_pass_41 (by decide) ?_
        exact pw_reti S hr hlk (2, mt, ct, sc, gl, nu, si, wh, pl) w (Or.inr (Or.inl ⟨rfl, by rw [nI_toInt hn9]; omega, by rw [nI_toInt hn9]; omega⟩)) (by decide) (by decide) dM_pass_42
    · refine lv_iconst (v := 1) hx hb dM_pass_11 (by decide) ?_
      refine lv_goto (tgt := 31) hx hb dM_pass_12 (by decide) ?_
      refine pw_put S w pm_FM 0 (fs := [.int cd, .int (nI mt), .int (nI mf), .ref (ad 0), .int (nI ct), .ref (ad 1), .ref (ad 2), .ref (ad 3), .ref (ad 4), .ref (ad 5), .ref (ad 6), .int sm, .int ms, .int mg, .int mn, .int mk, .ref (ad 7)]) rfl 0 (by decide) eM_34 rfl (v := .int 1) rfl rfl (Nat.le_of_ble_eq_true rfl) dM_pass_31 (fun H locs w => ?_)
      have w : pw_S D [(cI, .int)] A (pm_W m0 ad cI 1 mt mf fd ct sc gl nu si wh pl sm ms mg mn mk md) s _ _ := w
      refine lv_aload_n hx hb dM_pass_34 rfl (lv_at hl 0 rfl) ?_
      refine pw_get S w pm_FM 0 rfl 0 (by decide) eM_34 (v := .int 1) rfl dM_pass_35 ?_
      refine lv_if_le (tgt := 43) hx hb dM_pass_38 (by decide) (fun h9 => absurd h9 (by decide)) (fun _ => ?_)
      refine lv_iconst (v := 0) hx hb dM_pass_41 (by decide) ?_
      exact pw_reti S hr hlk (1, mt, ct, sc, gl, nu, si, wh, pl) w (Or.inl ⟨rfl, fun q => absurd q.2 (by have h9 := pw_nle h2; have : (1000000 : Int32).toInt = 1000000 := rfl; omega)⟩) (by decide) (by decide) dM_pass_42

set_option maxHeartbeats 4000000 in
set_option maxRecDepth 100000 in
/-- the reference: about -/
theorem pm_c_about (l : Launch) (D : va_G) (m0 : Nat) (ad : Nat → Nat) (cI : ClassId) (cd : Int32) (mt : Nat) (mf : Nat) (fd : Nat → Int32) (ct : Nat) (sc : Nat → Int32) (gl : Nat → Int32) (nu : Nat → Int32) (si : Nat → Int32) (wh : Nat → Int32) (pl : Nat → Int32) (sm : Int32) (ms : Int32) (mg : Int32) (mn : Int32) (mk : Int32) (md : Nat → Int32) (sz : Nat) (n : Int32) : pw_Mi l yM_about cM_about 2 .int ({ frames := 0, cells := 0, slots := 0, locals := 0 }) D [(cI, .int)] [.ref m0, .int n] (pm_W m0 ad cI cd mt mf fd ct sc gl nu si wh pl sm ms mg mn mk md) sz (σ := Int32) (fun r u => (u = 1 ∧ ¬ (0 ≤ n.toInt ∧ n.toInt ≤ 3)) ∨ (u = 2 ∧ (0 ≤ n.toInt ∧ n.toInt ≤ 3) ∧ sm = 0) ∨ (u = 0 ∧ (0 ≤ n.toInt ∧ n.toInt ≤ 3) ∧ ¬ sm = 0 ∧ r = (if n = 0 then ms else if n = 1 then mg else if n = 2 then mn else mk))) (fun u => pm_W m0 ad cI u mt mf fd ct sc gl nu si wh pl sm ms mg mn mk md) 0 0 := by
  refine pw_openI (by decide) (Nat.le_of_ble_eq_true rfl) ?_
  intro p e s m below meth c ls S hr hlk hl hsz w
  obtain ⟨hx, hb, hml, hown, hts⟩ := id S
  have hl : lv_has ls 2 [(0, .ref m0), (1, .int n)] := hl
  generalize va_A (pm_W m0 ad cI cd mt mf fd ct sc gl nu si wh pl sm ms mg mn mk md) sz = A at w ⊢
  refine lv_aload_n hx hb dM_about_0 rfl (lv_at hl 0 rfl) ?_
  refine lv_iload_n hx hb dM_about_1 rfl (lv_at hl 1 rfl) ?_
  refine lv_if_lt (tgt := 10) hx hb dM_about_2 (by decide) (fun h1 => ?_) (fun h1 => ?_)
  · refine lv_iconst (v := 1) hx hb dM_about_10 (by decide) ?_
    refine lv_goto (tgt := 26) hx hb dM_about_11 (by decide) ?_
    refine pw_put S w pm_FM 0 (fs := [.int cd, .int (nI mt), .int (nI mf), .ref (ad 0), .int (nI ct), .ref (ad 1), .ref (ad 2), .ref (ad 3), .ref (ad 4), .ref (ad 5), .ref (ad 6), .int sm, .int ms, .int mg, .int mn, .int mk, .ref (ad 7)]) rfl 0 (by decide) eM_34 rfl (v := .int 1) rfl rfl (Nat.le_of_ble_eq_true rfl) dM_about_26 (fun H locs w => ?_)
    have w : pw_S D [(cI, .int)] A (pm_W m0 ad cI 1 mt mf fd ct sc gl nu si wh pl sm ms mg mn mk md) s _ _ := w
    refine lv_aload_n hx hb dM_about_29 rfl (lv_at hl 0 rfl) ?_
    refine pw_get S w pm_FM 0 rfl 0 (by decide) eM_34 (v := .int 1) rfl dM_about_30 ?_
    refine lv_if_le (tgt := 40) hx hb dM_about_33 (by decide) (fun h9 => absurd h9 (by decide)) (fun _ => ?_)
    refine lv_iconst (v := 0) hx hb dM_about_36 (by decide) ?_
    refine lv_goto (tgt := 79) hx hb dM_about_37 (by decide) ?_
    exact pw_reti S hr hlk 1 w (Or.inl ⟨rfl, fun q => absurd q.1 (by have h9 := Int32.lt_iff_toInt_lt.mp h1; have : (0 : Int32).toInt = 0 := rfl; omega)⟩) (by decide) (by decide) dM_about_79
  · refine lv_iload_n hx hb dM_about_5 rfl (lv_at hl 1 rfl) ?_
    refine lv_iconst (v := 3) hx hb dM_about_6 (by decide) ?_
    refine lv_icmp_le (tgt := 14) hx hb dM_about_7 (by decide) (fun h2 => ?_) (fun h2 => ?_)
    · have hok : 0 ≤ n.toInt ∧ n.toInt ≤ 3 := ⟨by have h9 := pw_nlt h1; have : (0 : Int32).toInt = 0 := rfl; omega, by have h9 := Int32.le_iff_toInt_le.mp h2; have : (3 : Int32).toInt = 3 := rfl; omega⟩
      refine lv_aload_n hx hb dM_about_14 rfl (lv_at hl 0 rfl) ?_
      refine pw_get S w pm_FM 0 rfl 11 (by decide) eM_53 (v := .int sm) rfl dM_about_15 ?_
      refine lv_if_ne (tgt := 25) hx hb dM_about_18 (by decide) (fun h3 => ?_) (fun h3 => ?_)
      · refine lv_iconst (v := 0) hx hb dM_about_25 (by decide) ?_
        refine pw_put S w pm_FM 0 (fs := [.int cd, .int (nI mt), .int (nI mf), .ref (ad 0), .int (nI ct), .ref (ad 1), .ref (ad 2), .ref (ad 3), .ref (ad 4), .ref (ad 5), .ref (ad 6), .int sm, .int ms, .int mg, .int mn, .int mk, .ref (ad 7)]) rfl 0 (by decide) eM_34 rfl (v := .int 0) rfl rfl (Nat.le_of_ble_eq_true rfl) dM_about_26 (fun H locs w => ?_)
        have w : pw_S D [(cI, .int)] A (pm_W m0 ad cI 0 mt mf fd ct sc gl nu si wh pl sm ms mg mn mk md) s _ _ := w
        refine lv_aload_n hx hb dM_about_29 rfl (lv_at hl 0 rfl) ?_
        refine pw_get S w pm_FM 0 rfl 0 (by decide) eM_34 (v := .int 0) rfl dM_about_30 ?_
        refine lv_if_le (tgt := 40) hx hb dM_about_33 (by decide) (fun _ => ?_) (fun h9 => absurd (by decide) h9)
        refine lv_iload_n hx hb dM_about_40 rfl (lv_at hl 1 rfl) ?_
        refine lv_if_ne (tgt := 51) hx hb dM_about_41 (by decide) (fun h4 => ?_) (fun h4 => ?_)
        · refine lv_iload_n hx hb dM_about_51 rfl (lv_at hl 1 rfl) ?_
          refine lv_iconst (v := 1) hx hb dM_about_52 (by decide) ?_
          refine lv_icmp_ne (tgt := 63) hx hb dM_about_53 (by decide) (fun h5 => ?_) (fun h5 => ?_)
          · refine lv_iload_n hx hb dM_about_63 rfl (lv_at hl 1 rfl) ?_
            refine lv_iconst (v := 2) hx hb dM_about_64 (by decide) ?_
            refine lv_icmp_ne (tgt := 75) hx hb dM_about_65 (by decide) (fun h6 => ?_) (fun h6 => ?_)
            · refine lv_aload_n hx hb dM_about_75 rfl (lv_at hl 0 rfl) ?_
              refine pw_get S w pm_FM 0 rfl 15 (by decide) eM_66 (v := .int mk) rfl dM_about_76 ?_
              exact pw_reti S hr hlk 0 w (Or.inr (Or.inr ⟨rfl, hok, h3, by rw [if_neg h4, if_neg h5, if_neg h6]⟩)) (by decide) (by decide) dM_about_79
            · refine lv_aload_n hx hb dM_about_68 rfl (lv_at hl 0 rfl) ?_
              refine pw_get S w pm_FM 0 rfl 14 (by decide) eM_63 (v := .int mn) rfl dM_about_69 ?_
              refine lv_goto (tgt := 79) hx hb dM_about_72 (by decide) ?_
              exact pw_reti S hr hlk 0 w (Or.inr (Or.inr ⟨rfl, hok, h3, by rw [if_neg h4, if_neg h5, if_pos h6]⟩)) (by decide) (by decide) dM_about_79
          · refine lv_aload_n hx hb dM_about_56 rfl (lv_at hl 0 rfl) ?_
            refine pw_get S w pm_FM 0 rfl 13 (by decide) eM_60 (v := .int mg) rfl dM_about_57 ?_
            refine lv_goto (tgt := 79) hx hb dM_about_60 (by decide) ?_
            exact pw_reti S hr hlk 0 w (Or.inr (Or.inr ⟨rfl, hok, h3, by rw [if_neg h4, if_pos h5]⟩)) (by decide) (by decide) dM_about_79
        · refine lv_aload_n hx hb dM_about_44 rfl (lv_at hl 0 rfl) ?_
          refine pw_get S w pm_FM 0 rfl 12 (by decide) eM_57 (v := .int ms) rfl dM_about_45 ?_
          refine lv_goto (tgt := 79) hx hb dM_about_48 (by decide) ?_
          exact pw_reti S hr hlk 0 w (Or.inr (Or.inr ⟨rfl, hok, h3, by rw [if_pos h4]⟩)) (by decide) (by decide) dM_about_79
      · refine lv_iconst (v := 2) hx hb dM_about_21 (by decide) ?_
        refine lv_goto (tgt := 26) hx hb dM_about_22 (by decide) ?_
        refine pw_put S w pm_FM 0 (fs := [.int cd, .int (nI mt), .int (nI mf), .ref (ad 0), .int (nI ct), .ref (ad 1), .ref (ad 2), .ref (ad 3), .ref (ad 4), .ref (ad 5), .ref (ad 6), .int sm, .int ms, .int mg, .int mn, .int mk, .ref (ad 7)]) rfl 0 (by decide) eM_34 rfl (v := .int 2) rfl rfl (Nat.le_of_ble_eq_true rfl) dM_about_26 (fun H locs w => ?_)
        have w : pw_S D [(cI, .int)] A (pm_W m0 ad cI 2 mt mf fd ct sc gl nu si wh pl sm ms mg mn mk md) s _ _ := w
        refine lv_aload_n hx hb dM_about_29 rfl (lv_at hl 0 rfl) ?_
        refine pw_get S w pm_FM 0 rfl 0 (by decide) eM_34 (v := .int 2) rfl dM_about_30 ?_
        refine lv_if_le (tgt := 40) hx hb dM_about_33 (by decide) (fun h9 => absurd h9 (by decide)) (fun _ => ?_)
        refine lv_iconst (v := 0) hx hb dM_about_36 (by decide) ?_
        refine lv_goto (tgt := 79) hx hb dM_about_37 (by decide) ?_
        exact pw_reti S hr hlk 2 w (Or.inr (Or.inl ⟨rfl, hok, h3⟩)) (by decide) (by decide) dM_about_79
    · refine lv_iconst (v := 1) hx hb dM_about_10 (by decide) ?_
      refine lv_goto (tgt := 26) hx hb dM_about_11 (by decide) ?_
      refine pw_put S w pm_FM 0 (fs := [.int cd, .int (nI mt), .int (nI mf), .ref (ad 0), .int (nI ct), .ref (ad 1), .ref (ad 2), .ref (ad 3), .ref (ad 4), .ref (ad 5), .ref (ad 6), .int sm, .int ms, .int mg, .int mn, .int mk, .ref (ad 7)]) rfl 0 (by decide) eM_34 rfl (v := .int 1) rfl rfl (Nat.le_of_ble_eq_true rfl) dM_about_26 (fun H locs w => ?_)
      have w : pw_S D [(cI, .int)] A (pm_W m0 ad cI 1 mt mf fd ct sc gl nu si wh pl sm ms mg mn mk md) s _ _ := w
      refine lv_aload_n hx hb dM_about_29 rfl (lv_at hl 0 rfl) ?_
      refine pw_get S w pm_FM 0 rfl 0 (by decide) eM_34 (v := .int 1) rfl dM_about_30 ?_
      refine lv_if_le (tgt := 40) hx hb dM_about_33 (by decide) (fun h9 => absurd h9 (by decide)) (fun _ => ?_)
      refine lv_iconst (v := 0) hx hb dM_about_36 (by decide) ?_
      refine lv_goto (tgt := 79) hx hb dM_about_37 (by decide) ?_
      exact pw_reti S hr hlk 1 w (Or.inl ⟨rfl, fun q => absurd q.2 (by have h9 := pw_nle h2; have : (3 : Int32).toInt = 3 := rfl; omega)⟩) (by decide) (by decide) dM_about_79

set_option maxHeartbeats 4000000 in
set_option maxRecDepth 100000 in
/-- the reference: byteAt -/
theorem pm_c_byteAt (l : Launch) (D : va_G) (m0 : Nat) (ad : Nat → Nat) (cI : ClassId) (cd : Int32) (mt : Nat) (mf : Nat) (fd : Nat → Int32) (ct : Nat) (sc : Nat → Int32) (gl : Nat → Int32) (nu : Nat → Int32) (si : Nat → Int32) (wh : Nat → Int32) (pl : Nat → Int32) (sm : Int32) (ms : Int32) (mg : Int32) (mn : Int32) (mk : Int32) (md : Nat → Int32) (sz : Nat) (wn : Nat) (hzs : ¬ sm = 0 → mk = nI wn ∧ wn ≤ 1480) (i : Int32) : pw_Mi l yM_byteAt cM_byteAt 2 .int ({ frames := 0, cells := 0, slots := 0, locals := 0 }) D [(cI, .int)] [.ref m0, .int i] (pm_W m0 ad cI cd mt mf fd ct sc gl nu si wh pl sm ms mg mn mk md) sz (σ := Int32) (fun r u => (u = 1 ∧ sm = 0) ∨ (u = 2 ∧ ¬ sm = 0 ∧ ¬ (0 ≤ i.toInt ∧ i.toInt < wn)) ∨ (u = 0 ∧ ¬ sm = 0 ∧ ∃ i9, i9 < wn ∧ i = nI i9 ∧ r = md i9)) (fun u => pm_W m0 ad cI u mt mf fd ct sc gl nu si wh pl sm ms mg mn mk md) 0 0 := by
  refine pw_openI (by decide) (Nat.le_of_ble_eq_true rfl) ?_
  intro p e s m below meth c ls S hr hlk hl hsz w
  obtain ⟨hx, hb, hml, hown, hts⟩ := id S
  have hl : lv_has ls 2 [(0, .ref m0), (1, .int i)] := hl
  generalize va_A (pm_W m0 ad cI cd mt mf fd ct sc gl nu si wh pl sm ms mg mn mk md) sz = A at w ⊢
  refine lv_aload_n hx hb dM_byteAt_0 rfl (lv_at hl 0 rfl) ?_
  refine lv_aload_n hx hb dM_byteAt_1 rfl (lv_at hl 0 rfl) ?_
  refine pw_get S w pm_FM 0 rfl 11 (by decide) eM_53 (v := .int sm) rfl dM_byteAt_2 ?_
  refine lv_if_ne (tgt := 12) hx hb dM_byteAt_5 (by decide) (fun h1 => ?_) (fun h1 => ?_)
  · obtain ⟨hz, hz2⟩ := hzs h1
    refine lv_iload_n hx hb dM_byteAt_12 rfl (lv_at hl 1 rfl) ?_
    refine lv_if_lt (tgt := 24) hx hb dM_byteAt_13 (by decide) (fun h2 => ?_) (fun h2 => ?_)
    · refine lv_iconst (v := 2) hx hb dM_byteAt_24 (by decide) ?_
      refine lv_goto (tgt := 29) hx hb dM_byteAt_25 (by decide) ?_
      refine pw_put S w pm_FM 0 (fs := [.int cd, .int (nI mt), .int (nI mf), .ref (ad 0), .int (nI ct), .ref (ad 1), .ref (ad 2), .ref (ad 3), .ref (ad 4), .ref (ad 5), .ref (ad 6), .int sm, .int ms, .int mg, .int mn, .int mk, .ref (ad 7)]) rfl 0 (by decide) eM_34 rfl (v := .int 2) rfl rfl (Nat.le_of_ble_eq_true rfl) dM_byteAt_29 (fun H locs w => ?_)
      have w : pw_S D [(cI, .int)] A (pm_W m0 ad cI 2 mt mf fd ct sc gl nu si wh pl sm ms mg mn mk md) s _ _ := w
      refine lv_aload_n hx hb dM_byteAt_32 rfl (lv_at hl 0 rfl) ?_
      refine pw_get S w pm_FM 0 rfl 0 (by decide) eM_34 (v := .int 2) rfl dM_byteAt_33 ?_
      refine lv_if_le (tgt := 43) hx hb dM_byteAt_36 (by decide) (fun h9 => absurd h9 (by decide)) (fun _ => ?_)
      refine lv_iconst (v := 0) hx hb dM_byteAt_39 (by decide) ?_
      refine lv_goto (tgt := 49) hx hb dM_byteAt_40 (by decide) ?_
      exact pw_reti S hr hlk 2 w (Or.inr (Or.inl ⟨rfl, h1, fun q => absurd q.1 (by have h9 := Int32.lt_iff_toInt_lt.mp h2; have : (0 : Int32).toInt = 0 := rfl; omega)⟩)) (by decide) (by decide) dM_byteAt_49
    · refine lv_iload_n hx hb dM_byteAt_16 rfl (lv_at hl 1 rfl) ?_
      refine lv_aload_n hx hb dM_byteAt_17 rfl (lv_at hl 0 rfl) ?_
      refine pw_get S w pm_FM 0 rfl 15 (by decide) eM_66 (v := .int mk) rfl dM_byteAt_18 ?_
      refine lv_icmp_lt (tgt := 28) hx hb dM_byteAt_21 (by decide) (fun h3 => ?_) (fun h3 => ?_)
      · obtain ⟨i9, hi9, rfl⟩ := nI_of h2
        have hlt : i9 < wn := by rw [hz, nI_ltI hi9 (by omega)] at h3; exact h3
        refine lv_iconst (v := 0) hx hb dM_byteAt_28 (by decide) ?_
        refine pw_put S w pm_FM 0 (fs := [.int cd, .int (nI mt), .int (nI mf), .ref (ad 0), .int (nI ct), .ref (ad 1), .ref (ad 2), .ref (ad 3), .ref (ad 4), .ref (ad 5), .ref (ad 6), .int sm, .int ms, .int mg, .int mn, .int mk, .ref (ad 7)]) rfl 0 (by decide) eM_34 rfl (v := .int 0) rfl rfl (Nat.le_of_ble_eq_true rfl) dM_byteAt_29 (fun H locs w => ?_)
        have w : pw_S D [(cI, .int)] A (pm_W m0 ad cI 0 mt mf fd ct sc gl nu si wh pl sm ms mg mn mk md) s _ _ := w
        refine lv_aload_n hx hb dM_byteAt_32 rfl (lv_at hl 0 rfl) ?_
        refine pw_get S w pm_FM 0 rfl 0 (by decide) eM_34 (v := .int 0) rfl dM_byteAt_33 ?_
        refine lv_if_le (tgt := 43) hx hb dM_byteAt_36 (by decide) (fun _ => ?_) (fun h9 => absurd (by decide) h9)
        refine lv_aload_n hx hb dM_byteAt_43 rfl (lv_at hl 0 rfl) ?_
        refine pw_get S w pm_FM 0 rfl 16 (by decide) eM_31 (v := .ref (ad 7)) rfl dM_byteAt_44 ?_
        refine lv_iload_n hx hb dM_byteAt_47 rfl (lv_at hl 1 rfl) ?_
        refine pw_iald S w 8 0 (a := ad 7) (f := md) (n := 1480) (cA := cI) rfl rfl (j := i9) (by omega) (by decide) dM_byteAt_48 ?_
        exact pw_reti S hr hlk 0 w (Or.inr (Or.inr ⟨rfl, h1, i9, hlt, rfl, rfl⟩)) (by decide) (by decide) dM_byteAt_49
      · refine lv_iconst (v := 2) hx hb dM_byteAt_24 (by decide) ?_
        refine lv_goto (tgt := 29) hx hb dM_byteAt_25 (by decide) ?_
        refine pw_put S w pm_FM 0 (fs := [.int cd, .int (nI mt), .int (nI mf), .ref (ad 0), .int (nI ct), .ref (ad 1), .ref (ad 2), .ref (ad 3), .ref (ad 4), .ref (ad 5), .ref (ad 6), .int sm, .int ms, .int mg, .int mn, .int mk, .ref (ad 7)]) rfl 0 (by decide) eM_34 rfl (v := .int 2) rfl rfl (Nat.le_of_ble_eq_true rfl) dM_byteAt_29 (fun H locs w => ?_)
        have w : pw_S D [(cI, .int)] A (pm_W m0 ad cI 2 mt mf fd ct sc gl nu si wh pl sm ms mg mn mk md) s _ _ := w
        refine lv_aload_n hx hb dM_byteAt_32 rfl (lv_at hl 0 rfl) ?_
        refine pw_get S w pm_FM 0 rfl 0 (by decide) eM_34 (v := .int 2) rfl dM_byteAt_33 ?_
        refine lv_if_le (tgt := 43) hx hb dM_byteAt_36 (by decide) (fun h9 => absurd h9 (by decide)) (fun _ => ?_)
        refine lv_iconst (v := 0) hx hb dM_byteAt_39 (by decide) ?_
        refine lv_goto (tgt := 49) hx hb dM_byteAt_40 (by decide) ?_
        exact pw_reti S hr hlk 2 w (Or.inr (Or.inl ⟨rfl, h1, fun q => h3 (by rw [hz]; exact Int32.lt_iff_toInt_lt.mpr (by rw [nI_toInt (by omega)]; exact q.2))⟩)) (by decide) (by decide) dM_byteAt_49
  · refine lv_iconst (v := 1) hx hb dM_byteAt_8 (by decide) ?_
    refine lv_goto (tgt := 29) hx hb dM_byteAt_9 (by decide) ?_
    refine pw_put S w pm_FM 0 (fs := [.int cd, .int (nI mt), .int (nI mf), .ref (ad 0), .int (nI ct), .ref (ad 1), .ref (ad 2), .ref (ad 3), .ref (ad 4), .ref (ad 5), .ref (ad 6), .int sm, .int ms, .int mg, .int mn, .int mk, .ref (ad 7)]) rfl 0 (by decide) eM_34 rfl (v := .int 1) rfl rfl (Nat.le_of_ble_eq_true rfl) dM_byteAt_29 (fun H locs w => ?_)
    have w : pw_S D [(cI, .int)] A (pm_W m0 ad cI 1 mt mf fd ct sc gl nu si wh pl sm ms mg mn mk md) s _ _ := w
    refine lv_aload_n hx hb dM_byteAt_32 rfl (lv_at hl 0 rfl) ?_
    refine pw_get S w pm_FM 0 rfl 0 (by decide) eM_34 (v := .int 1) rfl dM_byteAt_33 ?_
    refine lv_if_le (tgt := 43) hx hb dM_byteAt_36 (by decide) (fun h9 => absurd h9 (by decide)) (fun _ => ?_)
    refine lv_iconst (v := 0) hx hb dM_byteAt_39 (by decide) ?_
    refine lv_goto (tgt := 49) hx hb dM_byteAt_40 (by decide) ?_
    exact pw_reti S hr hlk 1 w (Or.inl ⟨rfl, h1⟩) (by decide) (by decide) dM_byteAt_49

set_option maxHeartbeats 4000000 in
set_option maxRecDepth 100000 in
/-- the reference: missing -/
theorem pm_c_missing (l : Launch) (D : va_G) (m0 : Nat) (ad : Nat → Nat) (cI : ClassId) (cd : Int32) (mt : Nat) (mf : Nat) (fd : Nat → Int32) (ct : Nat) (sc : Nat → Int32) (gl : Nat → Int32) (nu : Nat → Int32) (si : Nat → Int32) (wh : Nat → Int32) (pl : Nat → Int32) (sm : Int32) (ms : Int32) (mg : Int32) (mn : Int32) (mk : Int32) (md : Nat → Int32) (sz : Nat) (hct : ct ≤ 4) (wn : Nat → Nat) (hw : ∀ q, q < ct → wh q = nI (wn q) ∧ wn q ≤ 1480) (a b d3 : Int32) : pw_Mi l yM_missing cM_missing 5 .int ({ frames := 1, cells := 0, slots := 0, locals := 60 }) D [(cI, .int)] [.ref m0, .int a, .int b, .int d3] (pm_W m0 ad cI cd mt mf fd ct sc gl nu si wh pl sm ms mg mn mk md) sz (σ := Unit) (fun r _ => ∃ x, pm_fnd sc gl nu ct a b d3 x ∧ r = (match x with | none => -1 | some k => nI (pm_c (fun i => pl (1480 * k + i)) (wn k)))) (fun _ => pm_W m0 ad cI 0 mt mf fd ct sc gl nu si wh pl sm ms mg mn mk md) 0 0 := by
  refine pw_openI (by decide) (Nat.le_of_ble_eq_true rfl) ?_
  intro p e s m below meth c ls S hr hlk hl hsz w
  obtain ⟨hx, hb, hml, hown, hts⟩ := id S
  have hl : lv_has ls 5 [(0, .ref m0), (1, .int a), (2, .int b), (3, .int d3)] := hl
  generalize va_A (pm_W m0 ad cI cd mt mf fd ct sc gl nu si wh pl sm ms mg mn mk md) sz = A at w ⊢
  refine lv_aload_n hx hb dM_missing_0 rfl (lv_at hl 0 rfl) ?_
  refine lv_iconst (v := 0) hx hb dM_missing_1 (by decide) ?_
  refine pw_put S w pm_FM 0 (fs := [.int cd, .int (nI mt), .int (nI mf), .ref (ad 0), .int (nI ct), .ref (ad 1), .ref (ad 2), .ref (ad 3), .ref (ad 4), .ref (ad 5), .ref (ad 6), .int sm, .int ms, .int mg, .int mn, .int mk, .ref (ad 7)]) rfl 0 (by decide) eM_34 rfl (v := .int 0) rfl rfl (Nat.le_of_ble_eq_true rfl) dM_missing_2 (fun H locs w => ?_)
  have w : pw_S D [(cI, .int)] A (pm_W m0 ad cI 0 mt mf fd ct sc gl nu si wh pl sm ms mg mn mk md) s _ _ := w
  refine lv_aload_n hx hb dM_missing_5 rfl (lv_at hl 0 rfl) ?_
  refine lv_iload_n hx hb dM_missing_6 rfl (lv_at hl 1 rfl) ?_
  refine lv_iload_n hx hb dM_missing_7 rfl (lv_at hl 2 rfl) ?_
  refine lv_iload_n hx hb dM_missing_8 rfl (lv_at hl 3 rfl) ?_
  refine pw_goi0 w.all (va_runV (C := RM) (As := [.int a, .int b, .int d3]) (rest := []) S (pm_c_find l D m0 ad cI 0 mt mf fd ct sc gl nu si wh pl sm ms mg mn mk md _ hct a b d3) (pw_cw (n := 3) S eM_69 iM_find sM_find iniM kM_find rfl rfl (by decide +kernel) ⟨by decide, by decide⟩) ⟨pw_blind, va_recv w.1 w.2.1 (ci := cM) (q0 := 0) rfl rfl, pw_pre w.all w.1⟩ rfl rfl hl.1 rfl (lv_room (Nat.le_of_ble_eq_true rfl)) dM_missing_9 ⟨Nat.zero_le _, Nat.zero_le _⟩) (fun r u H locs hp w => ?_)
  have w := w.one
  obtain ⟨x, hfx, rfl⟩ := hp
  refine lv_istore (lv' := [(4, .int (px_ix x)), (0, .ref m0), (1, .int a), (2, .int b), (3, .int d3)]) hx hb dM_missing_12 hl (by decide) rfl (fun ls hl => ?_)
  refine lv_iload hx hb dM_missing_14 (lv_at hl 0 rfl) ?_
  refine lv_if_ge (tgt := 23) hx hb dM_missing_16 (by decide) (fun h1 => ?_) (fun h1 => ?_)
  · obtain ⟨k, rfl⟩ : ∃ k, x = some k := by cases x with | none => exact absurd h1 (by decide) | some k => exact ⟨k, rfl⟩
    obtain ⟨hwk, hwk2⟩ := hw k hfx.1
    have hl : lv_has ls 5 [(4, .int (nI k)), (0, .ref m0), (1, .int a), (2, .int b), (3, .int d3)] := hl
    refine lv_aload_n hx hb dM_missing_23 rfl (lv_at hl 1 rfl) ?_
    refine lv_iload hx hb dM_missing_24 (lv_at hl 0 rfl) ?_
    refine pw_goi0 w.all (va_runV (C := RM) (As := [.int (nI k)]) (rest := []) S (pm_c_lacks l D m0 ad cI 0 mt mf fd ct sc gl nu si wh pl sm ms mg mn mk md _ k (by have := hfx.1; omega) (wn k) hwk hwk2) (pw_cw (n := 1) S eM_77 iM_lacks sM_lacks iniM kM_lacks rfl rfl (by decide +kernel) ⟨by decide, by decide⟩) ⟨pw_blind, va_recv w.1 w.2.1 (ci := cM) (q0 := 0) rfl rfl, pw_pre w.all w.1⟩ rfl rfl hl.1 rfl (lv_room (Nat.le_of_ble_eq_true rfl)) dM_missing_26 ⟨Nat.zero_le _, Nat.zero_le _⟩) (fun r u H locs hp w => ?_)
    have w := w.one
    subst hp
    exact pw_reti S hr hlk () w ⟨some k, hfx, rfl⟩ (by decide) (by decide) dM_missing_29
  · have hx0 : x = none := by cases x with | none => rfl | some k => exact absurd (nI_pos' (show k < 2 ^ 31 by have := hfx.1; omega)) h1
    subst hx0
    refine lv_iconst (v := (-1)) hx hb dM_missing_19 (by decide) ?_
    refine lv_goto (tgt := 29) hx hb dM_missing_20 (by decide) ?_
    exact pw_reti S hr hlk () w ⟨none, hfx, rfl⟩ (by decide) (by decide) dM_missing_29

set_option maxHeartbeats 4000000 in
set_option maxRecDepth 100000 in
/-- the reference: has -/
theorem pm_c_has (l : Launch) (D : va_G) (m0 : Nat) (ad : Nat → Nat) (cI : ClassId) (cd : Int32) (mt : Nat) (mf : Nat) (fd : Nat → Int32) (ct : Nat) (sc : Nat → Int32) (gl : Nat → Int32) (nu : Nat → Int32) (si : Nat → Int32) (wh : Nat → Int32) (pl : Nat → Int32) (sm : Int32) (ms : Int32) (mg : Int32) (mn : Int32) (mk : Int32) (md : Nat → Int32) (sz : Nat) (hct : ct ≤ 4) (wn : Nat → Nat) (hw : ∀ q, q < ct → wh q = nI (wn q) ∧ wn q ≤ 1480) (a b d3 i : Int32) : pw_Mi l yM_has cM_has 6 .boolean ({ frames := 1, cells := 0, slots := 0, locals := 60 }) D [(cI, .int)] [.ref m0, .int a, .int b, .int d3, .int i] (pm_W m0 ad cI cd mt mf fd ct sc gl nu si wh pl sm ms mg mn mk md) sz (σ := Unit) (fun r _ => ∃ x, pm_fnd sc gl nu ct a b d3 x ∧ ((r = 1 ∧ pm_hs pl wn i x) ∨ (r = 0 ∧ ¬ pm_hs pl wn i x))) (fun _ => pm_W m0 ad cI 0 mt mf fd ct sc gl nu si wh pl sm ms mg mn mk md) 0 0 := by
  refine pw_openI (by decide) (Nat.le_of_ble_eq_true rfl) ?_
  intro p e s m below meth c ls S hr hlk hl hsz w
  obtain ⟨hx, hb, hml, hown, hts⟩ := id S
  have hl : lv_has ls 6 [(0, .ref m0), (1, .int a), (2, .int b), (3, .int d3), (4, .int i)] := hl
  generalize va_A (pm_W m0 ad cI cd mt mf fd ct sc gl nu si wh pl sm ms mg mn mk md) sz = A at w ⊢
  refine lv_aload_n hx hb dM_has_0 rfl (lv_at hl 0 rfl) ?_
  refine lv_iconst (v := 0) hx hb dM_has_1 (by decide) ?_
  refine pw_put S w pm_FM 0 (fs := [.int cd, .int (nI mt), .int (nI mf), .ref (ad 0), .int (nI ct), .ref (ad 1), .ref (ad 2), .ref (ad 3), .ref (ad 4), .ref (ad 5), .ref (ad 6), .int sm, .int ms, .int mg, .int mn, .int mk, .ref (ad 7)]) rfl 0 (by decide) eM_34 rfl (v := .int 0) rfl rfl (Nat.le_of_ble_eq_true rfl) dM_has_2 (fun H locs w => ?_)
  have w : pw_S D [(cI, .int)] A (pm_W m0 ad cI 0 mt mf fd ct sc gl nu si wh pl sm ms mg mn mk md) s _ _ := w
  refine lv_aload_n hx hb dM_has_5 rfl (lv_at hl 0 rfl) ?_
  refine lv_iload_n hx hb dM_has_6 rfl (lv_at hl 1 rfl) ?_
  refine lv_iload_n hx hb dM_has_7 rfl (lv_at hl 2 rfl) ?_
  refine lv_iload_n hx hb dM_has_8 rfl (lv_at hl 3 rfl) ?_
  refine pw_goi0 w.all (va_runV (C := RM) (As := [.int a, .int b, .int d3]) (rest := []) S (pm_c_find l D m0 ad cI 0 mt mf fd ct sc gl nu si wh pl sm ms mg mn mk md _ hct a b d3) (pw_cw (n := 3) S eM_69 iM_find sM_find iniM kM_find rfl rfl (by decide +kernel) ⟨by decide, by decide⟩) ⟨pw_blind, va_recv w.1 w.2.1 (ci := cM) (q0 := 0) rfl rfl, pw_pre w.all w.1⟩ rfl rfl hl.1 rfl (lv_room (Nat.le_of_ble_eq_true rfl)) dM_has_9 ⟨Nat.zero_le _, Nat.zero_le _⟩) (fun r u H locs hp w => ?_)
  have w := w.one
  obtain ⟨x, hfx, rfl⟩ := hp
  refine lv_istore (lv' := [(5, .int (px_ix x)), (0, .ref m0), (1, .int a), (2, .int b), (3, .int d3), (4, .int i)]) hx hb dM_has_12 hl (by decide) rfl (fun ls hl => ?_)
  refine lv_iload hx hb dM_has_14 (lv_at hl 0 rfl) ?_
  refine lv_if_lt (tgt := 57) hx hb dM_has_16 (by decide) (fun h1 => ?_) (fun h1 => ?_)
  · have hx0 : x = none := by cases x with | none => rfl | some k => exact absurd h1 (nI_pos (show k < 2 ^ 31 by have := hfx.1; omega))
    subst hx0
    refine lv_iconst (v := 0) hx hb dM_has_57 (by decide) ?_
    exact pw_retz S hr hlk () rfl w ⟨none, hfx, Or.inr ⟨rfl, fun q => q⟩⟩ (by decide) (by decide) dM_has_58
  · obtain ⟨k, rfl⟩ : ∃ k, x = some k := by cases x with | none => exact absurd (by decide) h1 | some k => exact ⟨k, rfl⟩
    obtain ⟨hwk, hwk2⟩ := hw k hfx.1
    have hk4 : k < 4 := by have := hfx.1; omega
    have hl : lv_has ls 6 [(5, .int (nI k)), (0, .ref m0), (1, .int a), (2, .int b), (3, .int d3), (4, .int i)] := hl
    refine lv_iload hx hb dM_has_19 (lv_at hl 5 rfl) ?_
    refine lv_if_lt (tgt := 57) hx hb dM_has_21 (by decide) (fun h2 => ?_) (fun h2 => ?_)
    · refine lv_iconst (v := 0) hx hb dM_has_57 (by decide) ?_
      exact pw_retz S hr hlk () rfl w ⟨some k, hfx, Or.inr ⟨rfl, fun q => q.1 h2⟩⟩ (by decide) (by decide) dM_has_58
    · refine lv_iload hx hb dM_has_24 (lv_at hl 5 rfl) ?_
      refine lv_aload_n hx hb dM_has_26 rfl (lv_at hl 1 rfl) ?_
      refine pw_get S w pm_FM 0 rfl 9 (by decide) eM_25 (v := .ref (ad 5)) rfl dM_has_27 ?_
      refine lv_iload hx hb dM_has_30 (lv_at hl 0 rfl) ?_
      refine pw_iald S w 6 0 (a := ad 5) (f := wh) (n := 5) (cA := cI) rfl rfl (j := k) (by omega) (by decide) dM_has_32 ?_
      refine pw_top (y := nI (wn k)) hwk ?_
      refine lv_icmp_ge (tgt := 57) hx hb dM_has_33 (by decide) (fun h3 => ?_) (fun h3 => ?_)
      · refine lv_iconst (v := 0) hx hb dM_has_57 (by decide) ?_
        exact pw_retz S hr hlk () rfl w ⟨some k, hfx, Or.inr ⟨rfl, fun q => q.2.1 h3⟩⟩ (by decide) (by decide) dM_has_58
      · obtain ⟨i9, hi9, rfl⟩ := nI_of h2
        have hlt : i9 < wn k := Nat.lt_of_not_le (fun q => h3 (nI_le q (by omega)))
        refine lv_aload_n hx hb dM_has_36 rfl (lv_at hl 1 rfl) ?_
        refine pw_get S w pm_FM 0 rfl 10 (by decide) eM_28 (v := .ref (ad 6)) rfl dM_has_37 ?_
        refine lv_sipush (v := 1480) hx hb dM_has_40 (by decide) ?_
        refine lv_iload hx hb dM_has_43 (lv_at hl 0 rfl) ?_
        refine lv_imul hx hb dM_has_45 ?_
        refine lv_iload hx hb dM_has_46 (lv_at hl 5 rfl) ?_
        refine lv_iadd hx hb dM_has_48 ?_
        refine pw_top (y := nI (1480 * k + i9)) (pm_ix k i9) ?_
        refine pw_iald S w 7 0 (a := ad 6) (f := pl) (n := 7400) (cA := cI) rfl rfl (j := 1480 * k + i9) (by omega) (by decide) dM_has_49 ?_
        refine lv_if_lt (tgt := 57) hx hb dM_has_50 (by decide) (fun h4 => ?_) (fun h4 => ?_)
        · refine lv_iconst (v := 0) hx hb dM_has_57 (by decide) ?_
          exact pw_retz S hr hlk () rfl w ⟨some k, hfx, Or.inr ⟨rfl, fun q => q.2.2 (by rw [nI_clamp hi9]; exact h4)⟩⟩ (by decide) (by decide) dM_has_58
        · refine lv_iconst (v := 1) hx hb dM_has_53 (by decide) ?_
          refine lv_goto (tgt := 58) hx hb dM_has_54 (by decide) ?_
          exact pw_retz S hr hlk () rfl w ⟨some k, hfx, Or.inl ⟨rfl, h2, h3, by rw [nI_clamp hi9]; exact h4⟩⟩ (by decide) (by decide) dM_has_58
end
section
set_option maxHeartbeats 4000000 in
set_option maxRecDepth 100000 in
/-- the reference: piece -/
theorem pm_c_piece (l : Launch) (D : va_G) (m0 : Nat) (ad : Nat → Nat) (cI : ClassId) (cd : Int32) (mt : Nat) (mf : Nat) (fd : Nat → Int32) (ct : Nat) (sc : Nat → Int32) (gl : Nat → Int32) (nu : Nat → Int32) (si : Nat → Int32) (wh : Nat → Int32) (pl : Nat → Int32) (sm : Int32) (ms : Int32) (mg : Int32) (mn : Int32) (mk : Int32) (md : Nat → Int32) (sz : Nat) (hmf : mf ≤ 1480) (hct : ct ≤ 4) (a b d3 fm wl : Int32) : pw_Mi l yM_piece cM_piece 10 .int ({ frames := 2, cells := 0, slots := 0, locals := 120 }) D [(cI, .int)] [.ref m0, .int a, .int b, .int d3, .int fm, .int wl] (pm_W m0 ad cI cd mt mf fd ct sc gl nu si wh pl sm ms mg mn mk md) sz (σ := Int32 × Nat × pm_R) (fun r u => (u = (1, mf, ct, sc, gl, nu, si, wh, pl, sm, ms, mg, mn, mk, md) ∧ ¬ (1 ≤ wl.toInt ∧ wl.toInt ≤ 1480 ∧ 0 ≤ fm.toInt)) ∨ (u = (2, mf, ct, sc, gl, nu, si, wh, pl, sm, ms, mg, mn, mk, md) ∧ (1 ≤ wl.toInt ∧ wl.toInt ≤ 1480 ∧ 0 ≤ fm.toInt) ∧ ¬ (0 < mf ∧ fm.toInt + mf ≤ wl.toInt)) ∨ ∃ (fr w0 : Nat) (x : Option Nat), fm = nI fr ∧ wl = nI w0 ∧ 1 ≤ w0 ∧ w0 ≤ 1480 ∧ 0 < mf ∧ fr + mf ≤ w0 ∧ pm_fnd sc gl nu ct a b d3 x ∧ u.1 = 0 ∧ u.2.1 = 0 ∧ (r, u.2.2) = pm_pc fd mf fr w0 a b d3 wl mt ct sc gl nu si wh pl sm ms mg mn mk md x) (fun u => pm_W m0 ad cI u.1 mt u.2.1 fd u.2.2.1 u.2.2.2.1 u.2.2.2.2.1 u.2.2.2.2.2.1 u.2.2.2.2.2.2.1 u.2.2.2.2.2.2.2.1 u.2.2.2.2.2.2.2.2.1 u.2.2.2.2.2.2.2.2.2.1 u.2.2.2.2.2.2.2.2.2.2.1 u.2.2.2.2.2.2.2.2.2.2.2.1 u.2.2.2.2.2.2.2.2.2.2.2.2.1 u.2.2.2.2.2.2.2.2.2.2.2.2.2.1 u.2.2.2.2.2.2.2.2.2.2.2.2.2.2) 0 0 := by
  refine pw_openI (by decide) (Nat.le_of_ble_eq_true rfl) ?_
  intro p e s m below meth c ls S hr hlk hl hsz w
  obtain ⟨hx, hb, hml, hown, hts⟩ := id S
  have hl : lv_has ls 10 [(0, .ref m0), (1, .int a), (2, .int b), (3, .int d3), (4, .int fm), (5, .int wl)] := hl
  generalize va_A (pm_W m0 ad cI cd mt mf fd ct sc gl nu si wh pl sm ms mg mn mk md) sz = A at w ⊢
  refine lv_aload_n hx hb dM_piece_0 rfl (lv_at hl 0 rfl) ?_
  refine lv_iload hx hb dM_piece_1 (lv_at hl 5 rfl) ?_
  refine lv_iconst (v := 1) hx hb dM_piece_3 (by decide) ?_
  refine lv_icmp_lt (tgt := 20) hx hb dM_piece_4 (by decide) (fun h1 => ?_) (fun h1 => ?_)
  · refine lv_iconst (v := 1) hx hb dM_piece_20 (by decide) ?_
    refine lv_goto (tgt := 48) hx hb dM_piece_21 (by decide) ?_
    refine pw_put S w pm_FM 0 (fs := [.int cd, .int (nI mt), .int (nI mf), .ref (ad 0), .int (nI ct), .ref (ad 1), .ref (ad 2), .ref (ad 3), .ref (ad 4), .ref (ad 5), .ref (ad 6), .int sm, .int ms, .int mg, .int mn, .int mk, .ref (ad 7)]) rfl 0 (by decide) eM_34 rfl (v := .int 1) rfl rfl (Nat.le_of_ble_eq_true rfl) dM_piece_48 (fun H locs w => ?_)
    have w : pw_S D [(cI, .int)] A (pm_W m0 ad cI 1 mt mf fd ct sc gl nu si wh pl sm ms mg mn mk md) s _ _ := w
    refine lv_aload_n hx hb dM_piece_51 rfl (lv_at hl 0 rfl) ?_
    refine pw_get S w pm_FM 0 rfl 0 (by decide) eM_34 (v := .int 1) rfl dM_piece_52 ?_
    refine lv_if_le (tgt := 60) hx hb dM_piece_55 (by decide) (fun h9 => absurd h9 (by decide)) (fun _ => ?_)
    refine lv_iconst (v := 0) hx hb dM_piece_58 (by decide) ?_
    exact pw_reti S hr hlk (1, mf, ct, sc, gl, nu, si, wh, pl, sm, ms, mg, mn, mk, md) w (Or.inl ⟨rfl, fun q => absurd q.1 (by have h9 := Int32.lt_iff_toInt_lt.mp h1; have : (1 : Int32).toInt = 1 := rfl; omega)⟩) (by decide) (by decide) dM_piece_59
  · refine lv_iload hx hb dM_piece_7 (lv_at hl 5 rfl) ?_
    refine lv_sipush (v := 1480) hx hb dM_piece_9 (by decide) ?_
    refine lv_icmp_gt (tgt := 20) hx hb dM_piece_12 (by decide) (fun h2 => ?_) (fun h2 => ?_)
    · refine lv_iconst (v := 1) hx hb dM_piece_20 (by decide) ?_
      refine lv_goto (tgt := 48) hx hb dM_piece_21 (by decide) ?_
      refine pw_put S w pm_FM 0 (fs := [.int cd, .int (nI mt), .int (nI mf), .ref (ad 0), .int (nI ct), .ref (ad 1), .ref (ad 2), .ref (ad 3), .ref (ad 4), .ref (ad 5), .ref (ad 6), .int sm, .int ms, .int mg, .int mn, .int mk, .ref (ad 7)]) rfl 0 (by decide) eM_34 rfl (v := .int 1) rfl rfl (Nat.le_of_ble_eq_true rfl) dM_piece_48 (fun H locs w => ?_)
      have w : pw_S D [(cI, .int)] A (pm_W m0 ad cI 1 mt mf fd ct sc gl nu si wh pl sm ms mg mn mk md) s _ _ := w
      refine lv_aload_n hx hb dM_piece_51 rfl (lv_at hl 0 rfl) ?_
      refine pw_get S w pm_FM 0 rfl 0 (by decide) eM_34 (v := .int 1) rfl dM_piece_52 ?_
      refine lv_if_le (tgt := 60) hx hb dM_piece_55 (by decide) (fun h9 => absurd h9 (by decide)) (fun _ => ?_)
      refine lv_iconst (v := 0) hx hb dM_piece_58 (by decide) ?_
      exact pw_reti S hr hlk (1, mf, ct, sc, gl, nu, si, wh, pl, sm, ms, mg, mn, mk, md) w (Or.inl ⟨rfl, fun q => absurd q.2.1 (by have h9 := Int32.lt_iff_toInt_lt.mp h2; have : (1480 : Int32).toInt = 1480 := rfl; omega)⟩) (by decide) (by decide) dM_piece_59
    · refine lv_iload hx hb dM_piece_15 (lv_at hl 4 rfl) ?_
      refine lv_if_ge (tgt := 24) hx hb dM_piece_17 (by decide) (fun h3 => ?_) (fun h3 => ?_)
      · have hw1 : 1 ≤ wl.toInt := by have h9 := pw_nlt h1; have : (1 : Int32).toInt = 1 := rfl; omega
        have hw2 : wl.toInt ≤ 1480 := by have h9 := pw_nlt h2; have : (1480 : Int32).toInt = 1480 := rfl; omega
        have hf0 : 0 ≤ fm.toInt := by have h9 := Int32.le_iff_toInt_le.mp h3; have : (0 : Int32).toInt = 0 := rfl; omega
        obtain ⟨w0, hw0, ewl⟩ := nI_of (x := wl) (by rw [Int32.lt_iff_toInt_lt]; have : (0 : Int32).toInt = 0 := rfl; omega)
        obtain ⟨fr, hfr, efm⟩ := nI_of (x := fm) (by rw [Int32.lt_iff_toInt_lt]; have : (0 : Int32).toInt = 0 := rfl; omega)
        have ewi : wl.toInt = w0 := by rw [ewl, nI_toInt hw0]
        have efi : fm.toInt = fr := by rw [efm, nI_toInt hfr]
        clear h1 h2 h3
        refine lv_aload_n hx hb dM_piece_24 rfl (lv_at hl 0 rfl) ?_
        refine pw_get S w pm_FM 0 rfl 2 (by decide) eM_38 (v := .int (nI mf)) rfl dM_piece_25 ?_
        refine lv_if_eq (tgt := 43) hx hb dM_piece_28 (by decide) (fun h1 => ?_) (fun h1 => ?_)
        · have h9 : mf = 0 := (nI_eq (a := mf) (b := 0) (by omega) (by decide)).mp h1
          refine lv_iconst (v := 2) hx hb dM_piece_43 (by decide) ?_
          refine lv_goto (tgt := 48) hx hb dM_piece_44 (by decide) ?_
          refine pw_put S w pm_FM 0 (fs := [.int cd, .int (nI mt), .int (nI mf), .ref (ad 0), .int (nI ct), .ref (ad 1), .ref (ad 2), .ref (ad 3), .ref (ad 4), .ref (ad 5), .ref (ad 6), .int sm, .int ms, .int mg, .int mn, .int mk, .ref (ad 7)]) rfl 0 (by decide) eM_34 rfl (v := .int 2) rfl rfl (Nat.le_of_ble_eq_true rfl) dM_piece_48 (fun H locs w => ?_)
          have w : pw_S D [(cI, .int)] A (pm_W m0 ad cI 2 mt mf fd ct sc gl nu si wh pl sm ms mg mn mk md) s _ _ := w
          refine lv_aload_n hx hb dM_piece_51 rfl (lv_at hl 0 rfl) ?_
          refine pw_get S w pm_FM 0 rfl 0 (by decide) eM_34 (v := .int 2) rfl dM_piece_52 ?_
          refine lv_if_le (tgt := 60) hx hb dM_piece_55 (by decide) (fun h9 => absurd h9 (by decide)) (fun _ => ?_)
          refine lv_iconst (v := 0) hx hb dM_piece_58 (by decide) ?_
          exact pw_reti S hr hlk (2, mf, ct, sc, gl, nu, si, wh, pl, sm, ms, mg, mn, mk, md) w (Or.inr (Or.inl ⟨rfl, ⟨hw1, hw2, hf0⟩, fun q => by omega⟩)) (by decide) (by decide) dM_piece_59
        · have hmf0 : 0 < mf := Nat.pos_of_ne_zero (fun q => h1 (by rw [q]; rfl))
          have h8 : (wl - nI mf).toInt = (w0 : Int) - mf := by rw [ewl]; exact pk_sub_toInt (by omega) (by omega)
          refine lv_iload hx hb dM_piece_31 (lv_at hl 4 rfl) ?_
          refine lv_iload hx hb dM_piece_33 (lv_at hl 5 rfl) ?_
          refine lv_aload_n hx hb dM_piece_35 rfl (lv_at hl 0 rfl) ?_
          refine pw_get S w pm_FM 0 rfl 2 (by decide) eM_38 (v := .int (nI mf)) rfl dM_piece_36 ?_
          refine lv_isub hx hb dM_piece_39 ?_
          refine lv_icmp_le (tgt := 47) hx hb dM_piece_40 (by decide) (fun h2 => ?_) (fun h2 => ?_)
          · have h9 := Int32.le_iff_toInt_le.mp h2
            have hfit : fr + mf ≤ w0 := by rw [h8] at h9; omega
            clear h9 h8 h2 h1
            refine lv_iconst (v := 0) hx hb dM_piece_47 (by decide) ?_
            refine pw_put S w pm_FM 0 (fs := [.int cd, .int (nI mt), .int (nI mf), .ref (ad 0), .int (nI ct), .ref (ad 1), .ref (ad 2), .ref (ad 3), .ref (ad 4), .ref (ad 5), .ref (ad 6), .int sm, .int ms, .int mg, .int mn, .int mk, .ref (ad 7)]) rfl 0 (by decide) eM_34 rfl (v := .int 0) rfl rfl (Nat.le_of_ble_eq_true rfl) dM_piece_48 (fun H locs w => ?_)
            have w : pw_S D [(cI, .int)] A (pm_W m0 ad cI 0 mt mf fd ct sc gl nu si wh pl sm ms mg mn mk md) s _ _ := w
            refine lv_aload_n hx hb dM_piece_51 rfl (lv_at hl 0 rfl) ?_
            refine pw_get S w pm_FM 0 rfl 0 (by decide) eM_34 (v := .int 0) rfl dM_piece_52 ?_
            refine lv_if_le (tgt := 60) hx hb dM_piece_55 (by decide) (fun _ => ?_) (fun h9 => absurd (by decide) h9)
            refine lv_aload_n hx hb dM_piece_60 rfl (lv_at hl 0 rfl) ?_
            refine pw_get S w pm_FM 0 rfl 2 (by decide) eM_38 (v := .int (nI mf)) rfl dM_piece_61 ?_
            refine lv_istore (lv' := [(6, .int (nI mf)), (0, .ref m0), (1, .int a), (2, .int b), (3, .int d3), (4, .int fm), (5, .int wl)]) hx hb dM_piece_64 hl (by decide) rfl (fun ls hl => ?_)
            refine lv_aload_n hx hb dM_piece_66 rfl (lv_at hl 1 rfl) ?_
            refine lv_iconst (v := 0) hx hb dM_piece_67 (by decide) ?_
            refine pw_top (y := nI 0) rfl ?_
            refine pw_put S w pm_FM 0 (fs := [.int 0, .int (nI mt), .int (nI mf), .ref (ad 0), .int (nI ct), .ref (ad 1), .ref (ad 2), .ref (ad 3), .ref (ad 4), .ref (ad 5), .ref (ad 6), .int sm, .int ms, .int mg, .int mn, .int mk, .ref (ad 7)]) rfl 2 (by decide) eM_38 rfl (v := .int (nI 0)) rfl rfl (Nat.le_of_ble_eq_true rfl) dM_piece_68 (fun H locs w => ?_)
            have w : pw_S D [(cI, .int)] A (pm_W m0 ad cI 0 mt 0 fd ct sc gl nu si wh pl sm ms mg mn mk md) s _ _ := w
            refine lv_aload_n hx hb dM_piece_71 rfl (lv_at hl 1 rfl) ?_
            refine lv_iload_n hx hb dM_piece_72 rfl (lv_at hl 2 rfl) ?_
            refine lv_iload_n hx hb dM_piece_73 rfl (lv_at hl 3 rfl) ?_
            refine lv_iload_n hx hb dM_piece_74 rfl (lv_at hl 4 rfl) ?_
            have tail : ∀ (k ct1 : Nat) (sc1 gl1 nu1 si1 wh1 pl1 : Nat → Int32), k < ct1 → ct1 ≤ 4 → wh1 k = nI w0 → (∃ x, pm_fnd sc gl nu ct a b d3 x ∧ pm_tk fd mf fr k w0 ct1 sc1 gl1 nu1 si1 wh1 pl1 sm ms mg mn mk md = pm_pc fd mf fr w0 a b d3 wl mt ct sc gl nu si wh pl sm ms mg mn mk md x) → ∀ (H : Heap) (locs : List Loc), pw_S D [(cI, .int)] A (pm_W m0 ad cI 0 mt 0 fd ct1 sc1 gl1 nu1 si1 wh1 pl1 sm ms mg mn mk md) s H locs → ∀ (ls : Array Slot), lv_has ls 10 [(7, .int (nI k)), (6, .int (nI mf)), (0, .ref m0), (1, .int a), (2, .int b), (3, .int d3), (4, .int fm), (5, .int wl)] → W p l e ({ frames := 2, cells := 0, slots := 0, locals := 120 }) s m #[Value.ref m0, Value.int a, Value.int b, Value.int d3, Value.int fm, Value.int wl] below meth c H locs 0 0 (MQ below (va_Qi (S := Int32 × Nat × pm_R) (fun r u => (u = (1, mf, ct, sc, gl, nu, si, wh, pl, sm, ms, mg, mn, mk, md) ∧ ¬ (1 ≤ wl.toInt ∧ wl.toInt ≤ 1480 ∧ 0 ≤ fm.toInt)) ∨ (u = (2, mf, ct, sc, gl, nu, si, wh, pl, sm, ms, mg, mn, mk, md) ∧ (1 ≤ wl.toInt ∧ wl.toInt ≤ 1480 ∧ 0 ≤ fm.toInt) ∧ ¬ (0 < mf ∧ fm.toInt + mf ≤ wl.toInt)) ∨ ∃ (fr w0 : Nat) (x : Option Nat), fm = nI fr ∧ wl = nI w0 ∧ 1 ≤ w0 ∧ w0 ≤ 1480 ∧ 0 < mf ∧ fr + mf ≤ w0 ∧ pm_fnd sc gl nu ct a b d3 x ∧ u.1 = 0 ∧ u.2.1 = 0 ∧ (r, u.2.2) = pm_pc fd mf fr w0 a b d3 wl mt ct sc gl nu si wh pl sm ms mg mn mk md x) (pw_B D (fun u => pm_W m0 ad cI u.1 mt u.2.1 fd u.2.2.1 u.2.2.2.1 u.2.2.2.2.1 u.2.2.2.2.2.1 u.2.2.2.2.2.2.1 u.2.2.2.2.2.2.2.1 u.2.2.2.2.2.2.2.2.1 u.2.2.2.2.2.2.2.2.2.1 u.2.2.2.2.2.2.2.2.2.2.1 u.2.2.2.2.2.2.2.2.2.2.2.1 u.2.2.2.2.2.2.2.2.2.2.2.2.1 u.2.2.2.2.2.2.2.2.2.2.2.2.2.1 u.2.2.2.2.2.2.2.2.2.2.2.2.2.2) (fun _ => [(cI, .int)]) A) A) #[Value.ref m0, Value.int a, Value.int b, Value.int d3, Value.int fm, Value.int wl] s 0 0 A) (F0 m 121 ls []) := by
              intro k ct1 sc1 gl1 nu1 si1 wh1 pl1 hk hct1 hwk hres H locs w ls hl
              obtain ⟨x, hfx, hres⟩ := hres
              refine lv_iconst (v := 0) hx hb dM_piece_121 (by decide) ?_
              refine lv_istore (lv' := [(8, .int 0), (7, .int (nI k)), (6, .int (nI mf)), (0, .ref m0), (1, .int a), (2, .int b), (3, .int d3), (4, .int fm), (5, .int wl)]) hx hb dM_piece_122 hl (by decide) rfl (fun ls hl => ?_)
              have loop : ∀ (n : Nat) (i : Nat), i ≤ mf → mf < i + n → ∀ (H : Heap) (locs : List Loc), pw_S D [(cI, .int)] A (pm_W m0 ad cI 0 mt 0 fd ct1 sc1 gl1 nu1 si1 wh1 (pm_tB pl1 fd (1480 * k + fr) i) sm ms mg mn mk md) s H locs → ∀ (ls : Array Slot), lv_has ls 10 [(8, .int (nI i)), (7, .int (nI k)), (6, .int (nI mf)), (0, .ref m0), (1, .int a), (2, .int b), (3, .int d3), (4, .int fm), (5, .int wl)] → W p l e ({ frames := 2, cells := 0, slots := 0, locals := 120 }) s m #[Value.ref m0, Value.int a, Value.int b, Value.int d3, Value.int fm, Value.int wl] below meth c H locs 0 0 (MQ below (va_Qi (S := Int32 × Nat × pm_R) (fun r u => (u = (1, mf, ct, sc, gl, nu, si, wh, pl, sm, ms, mg, mn, mk, md) ∧ ¬ (1 ≤ wl.toInt ∧ wl.toInt ≤ 1480 ∧ 0 ≤ fm.toInt)) ∨ (u = (2, mf, ct, sc, gl, nu, si, wh, pl, sm, ms, mg, mn, mk, md) ∧ (1 ≤ wl.toInt ∧ wl.toInt ≤ 1480 ∧ 0 ≤ fm.toInt) ∧ ¬ (0 < mf ∧ fm.toInt + mf ≤ wl.toInt)) ∨ ∃ (fr w0 : Nat) (x : Option Nat), fm = nI fr ∧ wl = nI w0 ∧ 1 ≤ w0 ∧ w0 ≤ 1480 ∧ 0 < mf ∧ fr + mf ≤ w0 ∧ pm_fnd sc gl nu ct a b d3 x ∧ u.1 = 0 ∧ u.2.1 = 0 ∧ (r, u.2.2) = pm_pc fd mf fr w0 a b d3 wl mt ct sc gl nu si wh pl sm ms mg mn mk md x) (pw_B D (fun u => pm_W m0 ad cI u.1 mt u.2.1 fd u.2.2.1 u.2.2.2.1 u.2.2.2.2.1 u.2.2.2.2.2.1 u.2.2.2.2.2.2.1 u.2.2.2.2.2.2.2.1 u.2.2.2.2.2.2.2.2.1 u.2.2.2.2.2.2.2.2.2.1 u.2.2.2.2.2.2.2.2.2.2.1 u.2.2.2.2.2.2.2.2.2.2.2.1 u.2.2.2.2.2.2.2.2.2.2.2.2.1 u.2.2.2.2.2.2.2.2.2.2.2.2.2.1 u.2.2.2.2.2.2.2.2.2.2.2.2.2.2) (fun _ => [(cI, .int)]) A) A) #[Value.ref m0, Value.int a, Value.int b, Value.int d3, Value.int fm, Value.int wl] s 0 0 A) (F0 m 124 ls []) := by
                intro n
                induction n with
                | zero => intros; omega
                | succ n ih =>
                  intro i hi hn H locs w ls hl
                  refine lv_iload hx hb dM_piece_124 (lv_at hl 0 rfl) ?_
                  refine lv_iload hx hb dM_piece_126 (lv_at hl 2 rfl) ?_
                  refine lv_icmp_ge (tgt := 185) hx hb dM_piece_128 (by decide) (fun h1 => ?_) (fun h1 => ?_)
                  · have e9 : mf = i := by have := (nI_leI (a := mf) (b := i) (by omega) (by omega)).mp h1; omega
                    subst e9
                    refine lv_aload_n hx hb dM_piece_185 rfl (lv_at hl 3 rfl) ?_
                    refine lv_iload hx hb dM_piece_186 (lv_at hl 1 rfl) ?_
                    refine pw_goi0 w.all (va_runV (C := RM) (As := [.int (nI k)]) (rest := []) S (pm_c_lacks l D m0 ad cI 0 mt 0 fd ct1 sc1 gl1 nu1 si1 wh1 (pm_tB pl1 fd (1480 * k + fr) mf) sm ms mg mn mk md _ k (by omega) w0 hwk (by omega)) (pw_cw (n := 1) S eM_77 iM_lacks sM_lacks iniM kM_lacks rfl rfl (by decide +kernel) ⟨by decide, by decide⟩) ⟨pw_blind, va_recv w.1 w.2.1 (ci := cM) (q0 := 0) rfl rfl, pw_pre w.all w.1⟩ rfl rfl hl.1 rfl (lv_room (Nat.le_of_ble_eq_true rfl)) dM_piece_188 ⟨Nat.zero_le _, Nat.zero_le _⟩) (fun r u H locs hp w => ?_)
                    have w := w.one
                    subst hp
                    refine lv_if_le (tgt := 196) hx hb dM_piece_191 (by decide) (fun h2 => ?_) (fun h2 => ?_)
                    · have hc0 : pm_c (fun i9 => pm_tB pl1 fd (1480 * k + fr) mf (1480 * k + i9)) w0 = 0 := by have := (nI_leI (a := pm_c (fun i9 => pm_tB pl1 fd (1480 * k + fr) mf (1480 * k + i9)) w0) (b := 0) (by have := pm_c_le (fun i9 => pm_tB pl1 fd (1480 * k + fr) mf (1480 * k + i9)) w0; omega) (by decide)).mp h2; omega
                      refine lv_aload_n hx hb dM_piece_196 rfl (lv_at hl 3 rfl) ?_
                      refine lv_iload hx hb dM_piece_197 (lv_at hl 1 rfl) ?_
                      refine pw_gov0 w.all (va_runV (C := RM) (As := [.int (nI k)]) (rest := []) S (pm_c_finish l D m0 ad cI 0 mt 0 fd ct1 sc1 gl1 nu1 si1 wh1 (pm_tB pl1 fd (1480 * k + fr) mf) sm ms mg mn mk md _ k hk hct1 w0 hwk (by omega)) (pw_cw (n := 1) S eM_81 iM_finish sM_finish iniM kM_finish rfl rfl (by decide +kernel) ⟨by decide, by decide⟩) ⟨pw_blind, va_recv w.1 w.2.1 (ci := cM) (q0 := 0) rfl rfl, pw_pre w.all w.1⟩ rfl rfl hl.1 rfl (lv_room (Nat.le_of_ble_eq_true rfl)) dM_piece_199 ⟨Nat.zero_le _, Nat.zero_le _⟩) (fun  u H locs _ _ w => ?_)
                      have w := w.one
                      refine lv_iconst (v := 1) hx hb dM_piece_202 (by decide) ?_
                      exact pw_reti S hr hlk (0, 0, ct1 - 1, pm_s1 sc1 k (ct1 - 1), pm_s1 gl1 k (ct1 - 1), pm_s1 nu1 k (ct1 - 1), pm_s1 si1 k (ct1 - 1), pm_s1 wh1 k (ct1 - 1), pm_s2 (pm_tB pl1 fd (1480 * k + fr) mf) (1480 * k) (1480 * (ct1 - 1)), 1, sc1 k, gl1 k, nu1 k, wh1 k, pm_cp md (pm_tB pl1 fd (1480 * k + fr) mf) (1480 * k) w0) w (Or.inr (Or.inr ⟨fr, w0, x, efm, ewl, by omega, by omega, hmf0, hfit, hfx, rfl, rfl, hres ▸ (if_pos hc0).symm⟩)) (by decide) (by decide) dM_piece_203
                    · have hc0 : ¬ pm_c (fun i9 => pm_tB pl1 fd (1480 * k + fr) mf (1480 * k + i9)) w0 = 0 := fun q => h2 (by rw [q]; exact nI_le (Nat.le_refl 0) (by decide))
                      refine lv_iconst (v := 0) hx hb dM_piece_194 (by decide) ?_
                      exact pw_reti S hr hlk (0, 0, ct1, sc1, gl1, nu1, si1, wh1, pm_tB pl1 fd (1480 * k + fr) mf, sm, ms, mg, mn, mk, md) w (Or.inr (Or.inr ⟨fr, w0, x, efm, ewl, by omega, by omega, hmf0, hfit, hfx, rfl, rfl, hres ▸ (if_neg hc0).symm⟩)) (by decide) (by decide) dM_piece_195
                  · have hlt : i < mf := Nat.lt_of_not_le (fun q => h1 ((nI_leI (a := mf) (b := i) (by omega) (by omega)).mpr q))
                    refine lv_sipush (v := 1480) hx hb dM_piece_131 (by decide) ?_
                    refine lv_iload hx hb dM_piece_134 (lv_at hl 1 rfl) ?_
                    refine lv_imul hx hb dM_piece_136 ?_
                    refine lv_iload hx hb dM_piece_137 (lv_at hl 7 rfl) ?_
                    refine lv_iadd hx hb dM_piece_139 ?_
                    refine lv_iload hx hb dM_piece_140 (lv_at hl 0 rfl) ?_
                    refine lv_iadd hx hb dM_piece_142 ?_
                    refine pw_top (y := nI (1480 * k + fr + i)) (by rw [efm]; exact pm_ix3 k fr i) ?_
                    refine lv_istore (lv' := [(9, .int (nI (1480 * k + fr + i))), (8, .int (nI i)), (7, .int (nI k)), (6, .int (nI mf)), (0, .ref m0), (1, .int a), (2, .int b), (3, .int d3), (4, .int fm), (5, .int wl)]) hx hb dM_piece_143 hl (by decide) rfl (fun ls hl => ?_)
                    refine lv_aload_n hx hb dM_piece_145 rfl (lv_at hl 4 rfl) ?_
                    refine pw_get S w pm_FM 0 rfl 10 (by decide) eM_28 (v := .ref (ad 6)) rfl dM_piece_146 ?_
                    refine lv_iload hx hb dM_piece_149 (lv_at hl 0 rfl) ?_
                    refine lv_aload_n hx hb dM_piece_151 rfl (lv_at hl 4 rfl) ?_
                    refine pw_get S w pm_FM 0 rfl 10 (by decide) eM_28 (v := .ref (ad 6)) rfl dM_piece_152 ?_
                    refine lv_iload hx hb dM_piece_155 (lv_at hl 0 rfl) ?_
                    refine pw_iald S w 7 0 (a := ad 6) (f := pm_tB pl1 fd (1480 * k + fr) i) (n := 7400) (cA := cI) rfl rfl (j := 1480 * k + fr + i) (by omega) (by decide) dM_piece_157 ?_
                    refine lv_if_ge (tgt := 171) hx hb dM_piece_158 (by decide) (fun h2 => ?_) (fun h2 => ?_)
                    · refine lv_aload_n hx hb dM_piece_171 rfl (lv_at hl 4 rfl) ?_
                      refine pw_get S w pm_FM 0 rfl 10 (by decide) eM_28 (v := .ref (ad 6)) rfl dM_piece_172 ?_
                      refine lv_iload hx hb dM_piece_175 (lv_at hl 0 rfl) ?_
                      refine pw_iald S w 7 0 (a := ad 6) (f := pm_tB pl1 fd (1480 * k + fr) i) (n := 7400) (cA := cI) rfl rfl (j := 1480 * k + fr + i) (by omega) (by decide) dM_piece_177 ?_
                      refine pw_iast S w 7 0 (a := ad 6) (f := pm_tB pl1 fd (1480 * k + fr) i) (n := 7400) (cA := cI) rfl rfl (j := 1480 * k + fr + i) (by omega) (by decide) dM_piece_178 (fun H locs w => ?_)
                      have w : pw_S D [(cI, .int)] A (pm_W m0 ad cI 0 mt 0 fd ct1 sc1 gl1 nu1 si1 wh1 (upd (pm_tB pl1 fd (1480 * k + fr) i) (1480 * k + fr + i) ((pm_tB pl1 fd (1480 * k + fr) i) (1480 * k + fr + i))) sm ms mg mn mk md) s _ _ := w
                      have w : pw_S D [(cI, .int)] A (pm_W m0 ad cI 0 mt 0 fd ct1 sc1 gl1 nu1 si1 wh1 (pm_tB pl1 fd (1480 * k + fr) (i + 1)) sm ms mg mn mk md) s _ _ := w.to (by rw [show pm_tB pl1 fd (1480 * k + fr) (i + 1) = upd (pm_tB pl1 fd (1480 * k + fr) i) (1480 * k + fr + i) (pm_tB pl1 fd (1480 * k + fr) i (1480 * k + fr + i)) from congrArg (upd _ _) (if_neg (pm_nn h2))])
                      refine lv_iinc (v := nI (i + 1)) (lv' := [(8, .int (nI (i + 1))), (9, .int (nI (1480 * k + fr + i))), (7, .int (nI k)), (6, .int (nI mf)), (0, .ref m0), (1, .int a), (2, .int b), (3, .int d3), (4, .int fm), (5, .int wl)]) hx hb dM_piece_179 hl (k := 1) rfl (nI_1 i) (by decide) rfl (fun ls hl => ?_)
                      refine lv_goto (tgt := 124) hx hb dM_piece_182 (by decide) ?_
                      exact ih (i + 1) (by omega) (by omega) H locs w ls (lv_sub hl [0, 2, 3, 4, 5, 6, 7, 8, 9] rfl)
                    · refine lv_aload_n hx hb dM_piece_161 rfl (lv_at hl 4 rfl) ?_
                      refine pw_get S w pm_FM 0 rfl 3 (by decide) eM_7 (v := .ref (ad 0)) rfl dM_piece_162 ?_
                      refine lv_iload hx hb dM_piece_165 (lv_at hl 1 rfl) ?_
                      refine pw_iald S w 1 0 (a := ad 0) (f := fd) (n := 1480) (cA := cI) rfl rfl (j := i) (by omega) (by decide) dM_piece_167 ?_
                      refine lv_goto (tgt := 178) hx hb dM_piece_168 (by decide) ?_
                      refine pw_iast S w 7 0 (a := ad 6) (f := pm_tB pl1 fd (1480 * k + fr) i) (n := 7400) (cA := cI) rfl rfl (j := 1480 * k + fr + i) (by omega) (by decide) dM_piece_178 (fun H locs w => ?_)
                      have w : pw_S D [(cI, .int)] A (pm_W m0 ad cI 0 mt 0 fd ct1 sc1 gl1 nu1 si1 wh1 (upd (pm_tB pl1 fd (1480 * k + fr) i) (1480 * k + fr + i) (fd i)) sm ms mg mn mk md) s _ _ := w
                      have w : pw_S D [(cI, .int)] A (pm_W m0 ad cI 0 mt 0 fd ct1 sc1 gl1 nu1 si1 wh1 (pm_tB pl1 fd (1480 * k + fr) (i + 1)) sm ms mg mn mk md) s _ _ := w.to (by rw [show pm_tB pl1 fd (1480 * k + fr) (i + 1) = upd (pm_tB pl1 fd (1480 * k + fr) i) (1480 * k + fr + i) (fd i) from congrArg (upd _ _) (if_pos (pm_ng h2))])
                      refine lv_iinc (v := nI (i + 1)) (lv' := [(8, .int (nI (i + 1))), (9, .int (nI (1480 * k + fr + i))), (7, .int (nI k)), (6, .int (nI mf)), (0, .ref m0), (1, .int a), (2, .int b), (3, .int d3), (4, .int fm), (5, .int wl)]) hx hb dM_piece_179 hl (k := 1) rfl (nI_1 i) (by decide) rfl (fun ls hl => ?_)
                      refine lv_goto (tgt := 124) hx hb dM_piece_182 (by decide) ?_
                      exact ih (i + 1) (by omega) (by omega) H locs w ls (lv_sub hl [0, 2, 3, 4, 5, 6, 7, 8, 9] rfl)
              exact loop (mf + 1) 0 (by omega) (by omega) _ _ w ls hl
            refine pw_goi0 w.all (va_runV (C := RM) (As := [.int a, .int b, .int d3]) (rest := []) S (pm_c_find l D m0 ad cI 0 mt 0 fd ct sc gl nu si wh pl sm ms mg mn mk md _ hct a b d3) (pw_cw (n := 3) S eM_69 iM_find sM_find iniM kM_find rfl rfl (by decide +kernel) ⟨by decide, by decide⟩) ⟨pw_blind, va_recv w.1 w.2.1 (ci := cM) (q0 := 0) rfl rfl, pw_pre w.all w.1⟩ rfl rfl hl.1 rfl (lv_room (Nat.le_of_ble_eq_true rfl)) dM_piece_75 ⟨Nat.zero_le _, Nat.zero_le _⟩) (fun r u H locs hp w => ?_)
            have w := w.one
            obtain ⟨x, hfx, rfl⟩ := hp
            refine lv_istore (lv' := [(7, .int (px_ix x)), (6, .int (nI mf)), (0, .ref m0), (1, .int a), (2, .int b), (3, .int d3), (4, .int fm), (5, .int wl)]) hx hb dM_piece_78 hl (by decide) rfl (fun ls hl => ?_)
            refine lv_iload hx hb dM_piece_80 (lv_at hl 0 rfl) ?_
            refine lv_if_lt (tgt := 99) hx hb dM_piece_82 (by decide) (fun h1 => ?_) (fun h1 => ?_)
            · have hx0 : x = none := by cases x with | none => rfl | some k => exact absurd h1 (nI_pos (show k < 2 ^ 31 by have := hfx.1; omega))
              subst hx0
              refine lv_iload hx hb dM_piece_99 (lv_at hl 0 rfl) ?_
              refine lv_if_ge (tgt := 121) hx hb dM_piece_101 (by decide) (fun h9 => absurd h9 (by decide)) (fun _ => ?_)
              refine lv_aload_n hx hb dM_piece_104 rfl (lv_at hl 2 rfl) ?_
              refine lv_iload_n hx hb dM_piece_105 rfl (lv_at hl 3 rfl) ?_
              refine lv_iload_n hx hb dM_piece_106 rfl (lv_at hl 4 rfl) ?_
              refine lv_iload_n hx hb dM_piece_107 rfl (lv_at hl 5 rfl) ?_
              refine lv_iload hx hb dM_piece_108 (lv_at hl 7 rfl) ?_
              refine pw_gov0 w.all (va_runV (C := RM) (As := [.int a, .int b, .int d3, .int wl]) (rest := []) S (pm_c_begin l D m0 ad cI 0 mt 0 fd ct sc gl nu si wh pl sm ms mg mn mk md _ hct a b d3 wl) (pw_cw (n := 4) S eM_73 iM_begin sM_begin iniM kM_begin rfl rfl (by decide +kernel) ⟨by decide, by decide⟩) ⟨pw_blind, va_recv w.1 w.2.1 (ci := cM) (q0 := 0) rfl rfl, pw_pre w.all w.1⟩ rfl rfl hl.1 rfl (lv_room (Nat.le_of_ble_eq_true rfl)) dM_piece_110 ⟨Nat.zero_le _, Nat.zero_le _⟩) (fun  u H locs _ _ w => ?_)
              have w := w.one
              have w : pw_S D [(cI, .int)] A (pm_W m0 ad cI 0 mt 0 fd (pm_mkn ct + 1) (upd (pm_mk ct sc) (pm_mkn ct) a) (upd (pm_mk ct gl) (pm_mkn ct) b) (upd (pm_mk ct nu) (pm_mkn ct) d3) (upd (pm_mk ct si) (pm_mkn ct) (nI mt)) (upd (pm_mk ct wh) (pm_mkn ct) wl) (pm_fl (pm_mk2 ct pl) (1480 * pm_mkn ct) 1480) sm ms mg mn mk md) s _ _ := w
              refine lv_aload_n hx hb dM_piece_113 rfl (lv_at hl 2 rfl) ?_
              refine pw_get S w pm_FM 0 rfl 4 (by decide) eM_43 (v := .int (nI (pm_mkn ct + 1))) rfl dM_piece_114 ?_
              refine lv_iconst (v := 1) hx hb dM_piece_117 (by decide) ?_
              refine lv_isub hx hb dM_piece_118 ?_
              refine pw_top (y := nI (pm_mkn ct)) (nI_pred (pm_mkn ct)) ?_
              refine lv_istore (lv' := [(7, .int (nI (pm_mkn ct))), (6, .int (nI mf)), (0, .ref m0), (1, .int a), (2, .int b), (3, .int d3), (4, .int fm), (5, .int wl)]) hx hb dM_piece_119 hl (by decide) rfl (fun ls hl => ?_)
              exact tail (pm_mkn ct) (pm_mkn ct + 1) _ _ _ _ _ _ (Nat.lt_succ_self _) (Nat.succ_le_succ (pm_mkn_le hct)) (by rw [pk_us]; exact ewl) ⟨none, hfx, rfl⟩ _ _ w ls (lv_sub hl [0, 1, 2, 3, 4, 5, 6, 7] rfl)
            · obtain ⟨k, rfl⟩ : ∃ k, x = some k := by cases x with | none => exact absurd (by decide) h1 | some k => exact ⟨k, rfl⟩
              have hl : lv_has ls 10 [(7, .int (nI k)), (6, .int (nI mf)), (0, .ref m0), (1, .int a), (2, .int b), (3, .int d3), (4, .int fm), (5, .int wl)] := hl
              have hk4 : k < 4 := by have := hfx.1; omega
              refine lv_aload_n hx hb dM_piece_85 rfl (lv_at hl 2 rfl) ?_
              refine pw_get S w pm_FM 0 rfl 9 (by decide) eM_25 (v := .ref (ad 5)) rfl dM_piece_86 ?_
              refine lv_iload hx hb dM_piece_89 (lv_at hl 0 rfl) ?_
              refine pw_iald S w 6 0 (a := ad 5) (f := wh) (n := 5) (cA := cI) rfl rfl (j := k) (by omega) (by decide) dM_piece_91 ?_
              refine lv_iload hx hb dM_piece_92 (lv_at hl 7 rfl) ?_
              refine lv_icmp_eq (tgt := 99) hx hb dM_piece_94 (by decide) (fun h2 => ?_) (fun h2 => ?_)
              · refine lv_iload hx hb dM_piece_99 (lv_at hl 0 rfl) ?_
                refine lv_if_ge (tgt := 121) hx hb dM_piece_101 (by decide) (fun _ => ?_) (fun h9 => absurd (nI_pos' (show k < 2 ^ 31 by omega)) h9)
                exact tail k ct sc gl nu si wh pl hfx.1 hct (h2.trans ewl) ⟨some k, hfx, (if_pos h2).symm⟩ _ _ w ls hl
              · refine lv_iconst (v := (-1)) hx hb dM_piece_97 (by decide) ?_
                exact pw_reti S hr hlk (0, 0, ct, sc, gl, nu, si, wh, pl, sm, ms, mg, mn, mk, md) w (Or.inr (Or.inr ⟨fr, w0, some k, efm, ewl, by omega, by omega, hmf0, hfit, hfx, rfl, rfl, (if_neg h2).symm⟩)) (by decide) (by decide) dM_piece_98
          · refine lv_iconst (v := 2) hx hb dM_piece_43 (by decide) ?_
            refine lv_goto (tgt := 48) hx hb dM_piece_44 (by decide) ?_
            refine pw_put S w pm_FM 0 (fs := [.int cd, .int (nI mt), .int (nI mf), .ref (ad 0), .int (nI ct), .ref (ad 1), .ref (ad 2), .ref (ad 3), .ref (ad 4), .ref (ad 5), .ref (ad 6), .int sm, .int ms, .int mg, .int mn, .int mk, .ref (ad 7)]) rfl 0 (by decide) eM_34 rfl (v := .int 2) rfl rfl (Nat.le_of_ble_eq_true rfl) dM_piece_48 (fun H locs w => ?_)
            have w : pw_S D [(cI, .int)] A (pm_W m0 ad cI 2 mt mf fd ct sc gl nu si wh pl sm ms mg mn mk md) s _ _ := w
            refine lv_aload_n hx hb dM_piece_51 rfl (lv_at hl 0 rfl) ?_
            refine pw_get S w pm_FM 0 rfl 0 (by decide) eM_34 (v := .int 2) rfl dM_piece_52 ?_
            refine lv_if_le (tgt := 60) hx hb dM_piece_55 (by decide) (fun h9 => absurd h9 (by decide)) (fun _ => ?_)
            refine lv_iconst (v := 0) hx hb dM_piece_58 (by decide) ?_
            exact pw_reti S hr hlk (2, mf, ct, sc, gl, nu, si, wh, pl, sm, ms, mg, mn, mk, md) w (Or.inr (Or.inl ⟨rfl, ⟨hw1, hw2, hf0⟩, fun q => h2 (Int32.le_iff_toInt_le.mpr (by rw [h8]; omega))⟩)) (by decide) (by decide) dM_piece_59
      · refine lv_iconst (v := 1) hx hb dM_piece_20 (by decide) ?_
        refine lv_goto (tgt := 48) hx hb dM_piece_21 (by decide) ?_
        refine pw_put S w pm_FM 0 (fs := [.int cd, .int (nI mt), .int (nI mf), .ref (ad 0), .int (nI ct), .ref (ad 1), .ref (ad 2), .ref (ad 3), .ref (ad 4), .ref (ad 5), .ref (ad 6), .int sm, .int ms, .int mg, .int mn, .int mk, .ref (ad 7)]) rfl 0 (by decide) eM_34 rfl (v := .int 1) rfl rfl (Nat.le_of_ble_eq_true rfl) dM_piece_48 (fun H locs w => ?_)
        have w : pw_S D [(cI, .int)] A (pm_W m0 ad cI 1 mt mf fd ct sc gl nu si wh pl sm ms mg mn mk md) s _ _ := w
        refine lv_aload_n hx hb dM_piece_51 rfl (lv_at hl 0 rfl) ?_
        refine pw_get S w pm_FM 0 rfl 0 (by decide) eM_34 (v := .int 1) rfl dM_piece_52 ?_
        refine lv_if_le (tgt := 60) hx hb dM_piece_55 (by decide) (fun h9 => absurd h9 (by decide)) (fun _ => ?_)
        refine lv_iconst (v := 0) hx hb dM_piece_58 (by decide) ?_
        exact pw_reti S hr hlk (1, mf, ct, sc, gl, nu, si, wh, pl, sm, ms, mg, mn, mk, md) w (Or.inl ⟨rfl, fun q => absurd q.2.2 (by have h9 := pw_nle h3; have : (0 : Int32).toInt = 0 := rfl; omega)⟩) (by decide) (by decide) dM_piece_59
end
section
set_option maxHeartbeats 4000000 in
set_option maxRecDepth 100000 in
/-- the reference: its constructor -/
theorem pm_c_init (l : Launch) (D : va_G) (m0 sz : Nat) : pw_Mv l yM_init cM_init 1 ({ frames := 1, cells := 8, slots := 10385, locals := 60 }) D [] [.ref m0] [(m0, .inr (cM, [.int 0, .int 0, .int 0, .null, .int 0, .null, .null, .null, .null, .null, .null, .int 0, .int 0, .int 0, .int 0, .int 0, .null]))] sz (σ := (Nat → Nat) × ClassId) (fun _ => True) (fun u => pm_W m0 u.1 u.2 0 0 0 (fun _ => 0) 0 (fun _ => 0) (fun _ => 0) (fun _ => 0) (fun _ => 0) (fun _ => 0) (fun _ => 0) 0 0 0 0 0 (fun _ => 0)) (fun u => [(u.2, .int)]) 8 10385 := by
  refine pw_openV (by decide) (Nat.le_of_ble_eq_true rfl) ?_
  intro p e s m below meth c ls S hr hlk hnm hl hsz w
  obtain ⟨hx, hb, hml, hown, hts⟩ := id S
  have hl : lv_has ls 1 [(0, .ref m0)] := hl
  generalize va_A [(m0, .inr (cM, [.int 0, .int 0, .int 0, .null, .int 0, .null, .null, .null, .null, .null, .null, .int 0, .int 0, .int 0, .int 0, .int 0, .null]))] sz = A at w ⊢
  refine lv_aload_n hx hb dM_init_0 rfl (lv_at hl 0 rfl) ?_
  refine pw_oinit S eM_1 iO kO hl.1 (by decide) (by decide) dM_init_1 ?_
  refine lv_aload_n hx hb dM_init_4 rfl (lv_at hl 0 rfl) ?_
  refine lv_sipush (v := 1480) hx hb dM_init_5 (by decide) ?_
  refine pw_newi S w arI (n := 1480) (N := 1480) (by decide) (by decide) (by decide) (by decide) (by decide) dM_init_8 (fun q0 c0 H w => ?_)
  have w : pw_S D [(c0, .int)] A [(m0, .inr (cM, [.int 0, .int 0, .int 0, .null, .int 0, .null, .null, .null, .null, .null, .null, .int 0, .int 0, .int 0, .int 0, .int 0, .null])), (q0, .inl (c0, 1480, .inl (fun _ => 0)))] s _ _ := w
  refine pw_putF S w pm_FM 0 (fs := [.int 0, .int 0, .int 0, .null, .int 0, .null, .null, .null, .null, .null, .null, .int 0, .int 0, .int 0, .int 0, .int 0, .null]) rfl 3 (by decide) eM_7 rfl hnm rfl (v := .ref q0) rfl rfl (Nat.le_of_ble_eq_true rfl) dM_init_10 (fun H locs w => ?_)
  have w : pw_S D [(c0, .int)] A [(m0, .inr (cM, [.int 0, .int 0, .int 0, .ref q0, .int 0, .null, .null, .null, .null, .null, .null, .int 0, .int 0, .int 0, .int 0, .int 0, .null])), (q0, .inl (c0, 1480, .inl (fun _ => 0)))] s _ _ := w
  refine lv_aload_n hx hb dM_init_13 rfl (lv_at hl 0 rfl) ?_
  refine lv_iconst (v := 5) hx hb dM_init_14 (by decide) ?_
  refine pw_newi S w arI (n := 5) (N := 5) (by decide) (by decide) (by decide) (by decide) (by decide) dM_init_15 (fun q1 c1 H w => ?_)
  have e9 : c0 = c1 := pw_cI w.1 w.1 (i := 0) (j := 1) rfl rfl
  subst e9
  have w : pw_S D [(c0, .int)] A [(m0, .inr (cM, [.int 0, .int 0, .int 0, .ref q0, .int 0, .null, .null, .null, .null, .null, .null, .int 0, .int 0, .int 0, .int 0, .int 0, .null])), (q0, .inl (c0, 1480, .inl (fun _ => 0))), (q1, .inl (c0, 5, .inl (fun _ => 0)))] s _ _ := ⟨w.1.sub (tys' := [(c0, .int)]) [0] rfl, w.2⟩
  refine pw_putF S w pm_FM 0 (fs := [.int 0, .int 0, .int 0, .ref q0, .int 0, .null, .null, .null, .null, .null, .null, .int 0, .int 0, .int 0, .int 0, .int 0, .null]) rfl 5 (by decide) eM_13 rfl hnm rfl (v := .ref q1) rfl rfl (Nat.le_of_ble_eq_true rfl) dM_init_17 (fun H locs w => ?_)
  have w : pw_S D [(c0, .int)] A [(m0, .inr (cM, [.int 0, .int 0, .int 0, .ref q0, .int 0, .ref q1, .null, .null, .null, .null, .null, .int 0, .int 0, .int 0, .int 0, .int 0, .null])), (q0, .inl (c0, 1480, .inl (fun _ => 0))), (q1, .inl (c0, 5, .inl (fun _ => 0)))] s _ _ := w
  refine lv_aload_n hx hb dM_init_20 rfl (lv_at hl 0 rfl) ?_
  refine lv_iconst (v := 5) hx hb dM_init_21 (by decide) ?_
  refine pw_newi S w arI (n := 5) (N := 5) (by decide) (by decide) (by decide) (by decide) (by decide) dM_init_22 (fun q2 c2 H w => ?_)
  have e9 : c0 = c2 := pw_cI w.1 w.1 (i := 0) (j := 1) rfl rfl
  subst e9
  have w : pw_S D [(c0, .int)] A [(m0, .inr (cM, [.int 0, .int 0, .int 0, .ref q0, .int 0, .ref q1, .null, .null, .null, .null, .null, .int 0, .int 0, .int 0, .int 0, .int 0, .null])), (q0, .inl (c0, 1480, .inl (fun _ => 0))), (q1, .inl (c0, 5, .inl (fun _ => 0))), (q2, .inl (c0, 5, .inl (fun _ => 0)))] s _ _ := ⟨w.1.sub (tys' := [(c0, .int)]) [0] rfl, w.2⟩
  refine pw_putF S w pm_FM 0 (fs := [.int 0, .int 0, .int 0, .ref q0, .int 0, .ref q1, .null, .null, .null, .null, .null, .int 0, .int 0, .int 0, .int 0, .int 0, .null]) rfl 6 (by decide) eM_16 rfl hnm rfl (v := .ref q2) rfl rfl (Nat.le_of_ble_eq_true rfl) dM_init_24 (fun H locs w => ?_)
  have w : pw_S D [(c0, .int)] A [(m0, .inr (cM, [.int 0, .int 0, .int 0, .ref q0, .int 0, .ref q1, .ref q2, .null, .null, .null, .null, .int 0, .int 0, .int 0, .int 0, .int 0, .null])), (q0, .inl (c0, 1480, .inl (fun _ => 0))), (q1, .inl (c0, 5, .inl (fun _ => 0))), (q2, .inl (c0, 5, .inl (fun _ => 0)))] s _ _ := w
  refine lv_aload_n hx hb dM_init_27 rfl (lv_at hl 0 rfl) ?_
  refine lv_iconst (v := 5) hx hb dM_init_28 (by decide) ?_
  refine pw_newi S w arI (n := 5) (N := 5) (by decide) (by decide) (by decide) (by decide) (by decide) dM_init_29 (fun q3 c3 H w => ?_)
  have e9 : c0 = c3 := pw_cI w.1 w.1 (i := 0) (j := 1) rfl rfl
  subst e9
  have w : pw_S D [(c0, .int)] A [(m0, .inr (cM, [.int 0, .int 0, .int 0, .ref q0, .int 0, .ref q1, .ref q2, .null, .null, .null, .null, .int 0, .int 0, .int 0, .int 0, .int 0, .null])), (q0, .inl (c0, 1480, .inl (fun _ => 0))), (q1, .inl (c0, 5, .inl (fun _ => 0))), (q2, .inl (c0, 5, .inl (fun _ => 0))), (q3, .inl (c0, 5, .inl (fun _ => 0)))] s _ _ := ⟨w.1.sub (tys' := [(c0, .int)]) [0] rfl, w.2⟩
  refine pw_putF S w pm_FM 0 (fs := [.int 0, .int 0, .int 0, .ref q0, .int 0, .ref q1, .ref q2, .null, .null, .null, .null, .int 0, .int 0, .int 0, .int 0, .int 0, .null]) rfl 7 (by decide) eM_19 rfl hnm rfl (v := .ref q3) rfl rfl (Nat.le_of_ble_eq_true rfl) dM_init_31 (fun H locs w => ?_)
  have w : pw_S D [(c0, .int)] A [(m0, .inr (cM, [.int 0, .int 0, .int 0, .ref q0, .int 0, .ref q1, .ref q2, .ref q3, .null, .null, .null, .int 0, .int 0, .int 0, .int 0, .int 0, .null])), (q0, .inl (c0, 1480, .inl (fun _ => 0))), (q1, .inl (c0, 5, .inl (fun _ => 0))), (q2, .inl (c0, 5, .inl (fun _ => 0))), (q3, .inl (c0, 5, .inl (fun _ => 0)))] s _ _ := w
  refine lv_aload_n hx hb dM_init_34 rfl (lv_at hl 0 rfl) ?_
  refine lv_iconst (v := 5) hx hb dM_init_35 (by decide) ?_
  refine pw_newi S w arI (n := 5) (N := 5) (by decide) (by decide) (by decide) (by decide) (by decide) dM_init_36 (fun q4 c4 H w => ?_)
  have e9 : c0 = c4 := pw_cI w.1 w.1 (i := 0) (j := 1) rfl rfl
  subst e9
  have w : pw_S D [(c0, .int)] A [(m0, .inr (cM, [.int 0, .int 0, .int 0, .ref q0, .int 0, .ref q1, .ref q2, .ref q3, .null, .null, .null, .int 0, .int 0, .int 0, .int 0, .int 0, .null])), (q0, .inl (c0, 1480, .inl (fun _ => 0))), (q1, .inl (c0, 5, .inl (fun _ => 0))), (q2, .inl (c0, 5, .inl (fun _ => 0))), (q3, .inl (c0, 5, .inl (fun _ => 0))), (q4, .inl (c0, 5, .inl (fun _ => 0)))] s _ _ := ⟨w.1.sub (tys' := [(c0, .int)]) [0] rfl, w.2⟩
  refine pw_putF S w pm_FM 0 (fs := [.int 0, .int 0, .int 0, .ref q0, .int 0, .ref q1, .ref q2, .ref q3, .null, .null, .null, .int 0, .int 0, .int 0, .int 0, .int 0, .null]) rfl 8 (by decide) eM_22 rfl hnm rfl (v := .ref q4) rfl rfl (Nat.le_of_ble_eq_true rfl) dM_init_38 (fun H locs w => ?_)
  have w : pw_S D [(c0, .int)] A [(m0, .inr (cM, [.int 0, .int 0, .int 0, .ref q0, .int 0, .ref q1, .ref q2, .ref q3, .ref q4, .null, .null, .int 0, .int 0, .int 0, .int 0, .int 0, .null])), (q0, .inl (c0, 1480, .inl (fun _ => 0))), (q1, .inl (c0, 5, .inl (fun _ => 0))), (q2, .inl (c0, 5, .inl (fun _ => 0))), (q3, .inl (c0, 5, .inl (fun _ => 0))), (q4, .inl (c0, 5, .inl (fun _ => 0)))] s _ _ := w
  refine lv_aload_n hx hb dM_init_41 rfl (lv_at hl 0 rfl) ?_
  refine lv_iconst (v := 5) hx hb dM_init_42 (by decide) ?_
  refine pw_newi S w arI (n := 5) (N := 5) (by decide) (by decide) (by decide) (by decide) (by decide) dM_init_43 (fun q5 c5 H w => ?_)
  have e9 : c0 = c5 := pw_cI w.1 w.1 (i := 0) (j := 1) rfl rfl
  subst e9
  have w : pw_S D [(c0, .int)] A [(m0, .inr (cM, [.int 0, .int 0, .int 0, .ref q0, .int 0, .ref q1, .ref q2, .ref q3, .ref q4, .null, .null, .int 0, .int 0, .int 0, .int 0, .int 0, .null])), (q0, .inl (c0, 1480, .inl (fun _ => 0))), (q1, .inl (c0, 5, .inl (fun _ => 0))), (q2, .inl (c0, 5, .inl (fun _ => 0))), (q3, .inl (c0, 5, .inl (fun _ => 0))), (q4, .inl (c0, 5, .inl (fun _ => 0))), (q5, .inl (c0, 5, .inl (fun _ => 0)))] s _ _ := ⟨w.1.sub (tys' := [(c0, .int)]) [0] rfl, w.2⟩
  refine pw_putF S w pm_FM 0 (fs := [.int 0, .int 0, .int 0, .ref q0, .int 0, .ref q1, .ref q2, .ref q3, .ref q4, .null, .null, .int 0, .int 0, .int 0, .int 0, .int 0, .null]) rfl 9 (by decide) eM_25 rfl hnm rfl (v := .ref q5) rfl rfl (Nat.le_of_ble_eq_true rfl) dM_init_45 (fun H locs w => ?_)
  have w : pw_S D [(c0, .int)] A [(m0, .inr (cM, [.int 0, .int 0, .int 0, .ref q0, .int 0, .ref q1, .ref q2, .ref q3, .ref q4, .ref q5, .null, .int 0, .int 0, .int 0, .int 0, .int 0, .null])), (q0, .inl (c0, 1480, .inl (fun _ => 0))), (q1, .inl (c0, 5, .inl (fun _ => 0))), (q2, .inl (c0, 5, .inl (fun _ => 0))), (q3, .inl (c0, 5, .inl (fun _ => 0))), (q4, .inl (c0, 5, .inl (fun _ => 0))), (q5, .inl (c0, 5, .inl (fun _ => 0)))] s _ _ := w
  refine lv_aload_n hx hb dM_init_48 rfl (lv_at hl 0 rfl) ?_
  refine lv_sipush (v := 7400) hx hb dM_init_49 (by decide) ?_
  refine pw_newi S w arI (n := 7400) (N := 7400) (by decide) (by decide) (by decide) (by decide) (by decide) dM_init_52 (fun q6 c6 H w => ?_)
  have e9 : c0 = c6 := pw_cI w.1 w.1 (i := 0) (j := 1) rfl rfl
  subst e9
  have w : pw_S D [(c0, .int)] A [(m0, .inr (cM, [.int 0, .int 0, .int 0, .ref q0, .int 0, .ref q1, .ref q2, .ref q3, .ref q4, .ref q5, .null, .int 0, .int 0, .int 0, .int 0, .int 0, .null])), (q0, .inl (c0, 1480, .inl (fun _ => 0))), (q1, .inl (c0, 5, .inl (fun _ => 0))), (q2, .inl (c0, 5, .inl (fun _ => 0))), (q3, .inl (c0, 5, .inl (fun _ => 0))), (q4, .inl (c0, 5, .inl (fun _ => 0))), (q5, .inl (c0, 5, .inl (fun _ => 0))), (q6, .inl (c0, 7400, .inl (fun _ => 0)))] s _ _ := ⟨w.1.sub (tys' := [(c0, .int)]) [0] rfl, w.2⟩
  refine pw_putF S w pm_FM 0 (fs := [.int 0, .int 0, .int 0, .ref q0, .int 0, .ref q1, .ref q2, .ref q3, .ref q4, .ref q5, .null, .int 0, .int 0, .int 0, .int 0, .int 0, .null]) rfl 10 (by decide) eM_28 rfl hnm rfl (v := .ref q6) rfl rfl (Nat.le_of_ble_eq_true rfl) dM_init_54 (fun H locs w => ?_)
  have w : pw_S D [(c0, .int)] A [(m0, .inr (cM, [.int 0, .int 0, .int 0, .ref q0, .int 0, .ref q1, .ref q2, .ref q3, .ref q4, .ref q5, .ref q6, .int 0, .int 0, .int 0, .int 0, .int 0, .null])), (q0, .inl (c0, 1480, .inl (fun _ => 0))), (q1, .inl (c0, 5, .inl (fun _ => 0))), (q2, .inl (c0, 5, .inl (fun _ => 0))), (q3, .inl (c0, 5, .inl (fun _ => 0))), (q4, .inl (c0, 5, .inl (fun _ => 0))), (q5, .inl (c0, 5, .inl (fun _ => 0))), (q6, .inl (c0, 7400, .inl (fun _ => 0)))] s _ _ := w
  refine lv_aload_n hx hb dM_init_57 rfl (lv_at hl 0 rfl) ?_
  refine lv_sipush (v := 1480) hx hb dM_init_58 (by decide) ?_
  refine pw_newi S w arI (n := 1480) (N := 1480) (by decide) (by decide) (by decide) (by decide) (by decide) dM_init_61 (fun q7 c7 H w => ?_)
  have e9 : c0 = c7 := pw_cI w.1 w.1 (i := 0) (j := 1) rfl rfl
  subst e9
  have w : pw_S D [(c0, .int)] A [(m0, .inr (cM, [.int 0, .int 0, .int 0, .ref q0, .int 0, .ref q1, .ref q2, .ref q3, .ref q4, .ref q5, .ref q6, .int 0, .int 0, .int 0, .int 0, .int 0, .null])), (q0, .inl (c0, 1480, .inl (fun _ => 0))), (q1, .inl (c0, 5, .inl (fun _ => 0))), (q2, .inl (c0, 5, .inl (fun _ => 0))), (q3, .inl (c0, 5, .inl (fun _ => 0))), (q4, .inl (c0, 5, .inl (fun _ => 0))), (q5, .inl (c0, 5, .inl (fun _ => 0))), (q6, .inl (c0, 7400, .inl (fun _ => 0))), (q7, .inl (c0, 1480, .inl (fun _ => 0)))] s _ _ := ⟨w.1.sub (tys' := [(c0, .int)]) [0] rfl, w.2⟩
  refine pw_putF S w pm_FM 0 (fs := [.int 0, .int 0, .int 0, .ref q0, .int 0, .ref q1, .ref q2, .ref q3, .ref q4, .ref q5, .ref q6, .int 0, .int 0, .int 0, .int 0, .int 0, .null]) rfl 16 (by decide) eM_31 rfl hnm rfl (v := .ref q7) rfl rfl (Nat.le_of_ble_eq_true rfl) dM_init_63 (fun H locs w => ?_)
  have w : pw_S D [(c0, .int)] A [(m0, .inr (cM, [.int 0, .int 0, .int 0, .ref q0, .int 0, .ref q1, .ref q2, .ref q3, .ref q4, .ref q5, .ref q6, .int 0, .int 0, .int 0, .int 0, .int 0, .ref q7])), (q0, .inl (c0, 1480, .inl (fun _ => 0))), (q1, .inl (c0, 5, .inl (fun _ => 0))), (q2, .inl (c0, 5, .inl (fun _ => 0))), (q3, .inl (c0, 5, .inl (fun _ => 0))), (q4, .inl (c0, 5, .inl (fun _ => 0))), (q5, .inl (c0, 5, .inl (fun _ => 0))), (q6, .inl (c0, 7400, .inl (fun _ => 0))), (q7, .inl (c0, 1480, .inl (fun _ => 0)))] s _ _ := w
  exact pw_retv S hr hlk (fun i => [q0, q1, q2, q3, q4, q5, q6, q7].getD i 0, c0) w trivial (by decide) (by decide) dM_init_66
end
section
set_option maxHeartbeats 4000000 in
set_option maxRecDepth 100000 in
/-- the law's feed -/
theorem pl_c_feed (l : Launch) (D : va_G) (a0 af ab : Nat) (o ar : Nat → Nat) (cI cO : ClassId) (fd : Nat → Int32) (nf : Nat) (sg : Nat → Nat) (nb : Nat) (lw : Nat) (aw : Int32) (tm : Nat) (G : Nat → px_G) (B : Nat → Nat → Int32) (sz : Nat) (qo : Nat) (cL : ClassId) (f : Nat → Int64) (hl9 : l.stackTraces = false) (hnf : nf ≤ 1480) (x : Int64) (n : Int32) : pw_MW l yL_feed cL_feed 6 .int [(0, 11, 14, 13), (0, 11, 18, 15)] ({ frames := 7, cells := 1, slots := 6, locals := 200 }) D (px_T cI cO ++ [(cL, .long)]) [.ref a0, .long x, .int n, .ref qo] (px_W a0 af ab o ar cI cO fd nf sg nb lw aw tm G B ++ [(qo, .inl (cL, 1, .inr (.inl f)))]) sz (σ := Option (Nat × (Nat → Int32)) × (Nat → Int64)) (fun k y9 => match y9.1 with | none => (k = 1 ∧ ¬ (1 ≤ n.toInt ∧ n.toInt ≤ 8)) ∨ (k = 2 ∧ (1 ≤ n.toInt ∧ n.toInt ≤ 8) ∧ 1480 < (nf : Int) + n.toInt) | some u => k = 0 ∧ ∃ r, (fun r u => 1 ≤ u.1 ∧ u.1 ≤ 8 ∧ n = nI u.1 ∧ nf + u.1 ≤ 1480 ∧ u.2 = px_fd fd nf x n u.1 ∧ r = nI (nf + u.1)) r u ∧ y9.2 0 = r.toInt64) (fun y9 => (match y9.1 with | none => px_W a0 af ab o ar cI cO fd nf sg nb lw aw tm G B | some u => px_W a0 af ab o ar cI cO u.2 (nf + u.1) sg nb lw aw tm G B) ++ [(qo, .inl (cL, 1, .inr (.inl y9.2)))]) 1 6 := by
  refine pw_openW (by decide) (Nat.le_of_ble_eq_true rfl) ?_
  intro p e s m below meth c ls S hr hlk hTab hl hsz w
  obtain ⟨hx, hb, hml, hown, hts⟩ := id S
  have hl : lv_has ls 6 [(0, .ref a0), (1, .long x), (3, .int n), (4, .ref qo)] := hl
  generalize va_A (px_W a0 af ab o ar cI cO fd nf sg nb lw aw tm G B ++ [(qo, .inl (cL, 1, .inr (.inl f)))]) sz = A at w ⊢
  refine lv_aload hx hb dL_feed_0 (lv_at hl 3 rfl) ?_
  refine lv_iconst (v := 0) hx hb dL_feed_2 (by decide) ?_
  refine lv_aload_n hx hb dL_feed_3 rfl (lv_at hl 0 rfl) ?_
  refine lv_lload_n hx hb dL_feed_4 rfl (lv_at hl 1 rfl) ?_
  refine lv_iload_n hx hb dL_feed_5 rfl (lv_at hl 2 rfl) ?_
  have w : pw_S D (px_T cI cO ++ [(cL, .long)]) A ([] ++ (px_W a0 af ab o ar cI cO fd nf sg nb lw aw tm G B ++ [(qo, .inl (cL, 1, .inr (.inl f)))])) s s.heap [] := w
  refine pw_gox w (vx_runV (C := RP) (As := [.long x, .int n]) (rest := [.int 0, .ref qo]) S (px_c_feed l D a0 af ab o ar cI cO fd nf sg nb lw aw tm G B s.heap.size hl9 hnf x n) (pw_cw (n := 2) S eL_7 iP_feed sP_feed iniP kP_feed rfl rfl (by decide +kernel) ⟨by decide, by decide⟩) ⟨pw_blind, va_recv w.1 w.2.1 (ci := cP) (q0 := 0) rfl rfl, pw_pre w (w.1.sub [0, 1] rfl)⟩ rfl rfl hl.1 rfl (lv_room (Nat.le_of_ble_eq_true rfl)) dL_feed_6 ⟨by decide, by decide⟩) (fun E ce q9 H locs hX w hce hcv hcl => ?_) (fun r u H locs hp w => ?_)
  · rcases hX with ⟨rfl, hX⟩ | ⟨rfl, hX⟩
    · refine vx_catch (own := RL) (name := exIA) (E := exIA) hown [] ⟨0, 11, 14, 13⟩ [⟨0, 11, 18, 15⟩] (by rw [hTab]; rfl) (fun z hz => nomatch hz) (by decide) (by decide) (hts _ cl_exIA) (va_Nw.use rfl (w.2.2.2.2.2.nC ct_exIA)) hce hcv hcl ?_
      refine lv_astore (lv' := [(5, .ref q9), (0, .ref a0), (1, .long x), (3, .int n), (4, .ref qo)]) hx hb dL_feed_14 hl (by decide) rfl (fun ls hl => ?_)
      refine lv_iconst (v := 1) hx hb dL_feed_16 (by decide) ?_
      exact pw_reti S hr hlk (none, f) w (Or.inl ⟨rfl, hX⟩) (by decide) (by decide) dL_feed_17
    · refine vx_catch (own := RL) (name := exIS) (E := exIS) hown [⟨0, 11, 14, 13⟩] ⟨0, 11, 18, 15⟩ [] (by rw [hTab]; rfl) (fun z hz => by rw [List.mem_singleton.mp hz]; exact Or.inr ⟨by decide, exIA, hts _ cl_exIA, w.2.2.2.2.2.nN nc_exIS_exIA⟩) (by decide) (by decide) (hts _ cl_exIS) (va_Nw.use rfl (w.2.2.2.2.2.nC ct_exIS)) hce hcv hcl ?_
      refine lv_astore (lv' := [(5, .ref q9), (0, .ref a0), (1, .long x), (3, .int n), (4, .ref qo)]) hx hb dL_feed_18 hl (by decide) rfl (fun ls hl => ?_)
      refine lv_iconst (v := 2) hx hb dL_feed_20 (by decide) ?_
      exact pw_reti S hr hlk (none, f) w (Or.inr ⟨rfl, hX⟩) (by decide) (by decide) dL_feed_21
  · refine lv_i2l hx hb dL_feed_9 rfl ?_
    refine pw_last S w 13 2 (x := qo) (f := f) (n := 1) (cA := cL) rfl rfl (j := 0) (by decide) (by decide) dL_feed_10 (fun H locs w => ?_)
    refine lv_goto (tgt := 22) hx hb dL_feed_11 (by decide) ?_
    refine lv_iconst (v := 0) hx hb dL_feed_22 (by decide) ?_
    exact pw_reti S hr hlk (some u, vp_updL f 0 r.toInt64) w ⟨rfl, r, hp, rfl⟩ (by decide) (by decide) dL_feed_23

set_option maxHeartbeats 4000000 in
set_option maxRecDepth 100000 in
/-- the law's piece -/
theorem pl_c_piece (l : Launch) (D : va_G) (a0 af ab : Nat) (o ar : Nat → Nat) (cI cO : ClassId) (fd : Nat → Int32) (nf : Nat) (sg : Nat → Nat) (nb : Nat) (lw : Nat) (aw : Int32) (tm : Nat) (G : Nat → px_G) (B : Nat → Nat → Int32) (sz : Nat) (qo : Nat) (cL : ClassId) (f : Nat → Int64) (hl9 : l.stackTraces = false) (hnf : nf ≤ 1480) (hnb : nb ≤ 4) (hsg : ∀ q, q < 4 → sg q < 5) (hlw : lw < 5) (a b d3 fm wl : Int32) : pw_MW l yL_piece cL_piece 8 .int [(0, 16, 19, 13), (0, 16, 23, 15)] ({ frames := 7, cells := 1, slots := 6, locals := 200 }) D (px_T cI cO ++ [(cL, .long)]) [.ref a0, .int a, .int b, .int d3, .int fm, .int wl, .ref qo] (px_W a0 af ab o ar cI cO fd nf sg nb lw aw tm G B ++ [(qo, .inl (cL, 1, .inr (.inl f)))]) sz (σ := Option (px_R) × (Nat → Int64)) (fun k y9 => match y9.1 with | none => (k = 1 ∧ ¬ (1 ≤ wl.toInt ∧ wl.toInt ≤ 1480 ∧ 0 ≤ fm.toInt)) ∨ (k = 2 ∧ (1 ≤ wl.toInt ∧ wl.toInt ≤ 1480 ∧ 0 ≤ fm.toInt) ∧ ¬ (0 < nf ∧ fm.toInt + nf ≤ wl.toInt)) | some u => k = 0 ∧ ∃ r, (fun r u => ∃ (fr wh : Nat) (x : Option Nat), fm = nI fr ∧ wl = nI wh ∧ 1 ≤ wh ∧ wh ≤ 1480 ∧ 0 < nf ∧ fr + nf ≤ wh ∧ px_fnd sg G nb a b d3 x ∧ (r, u) = px_pc fd nf fr a b d3 wl sg nb lw aw tm G B x) r u ∧ y9.2 0 = r.toInt64) (fun y9 => (match y9.1 with | none => px_W a0 af ab o ar cI cO fd nf sg nb lw aw tm G B | some u => px_W a0 af ab o ar cI cO fd 0 u.1 u.2.1 u.2.2.1 u.2.2.2.1 tm u.2.2.2.2.1 u.2.2.2.2.2) ++ [(qo, .inl (cL, 1, .inr (.inl y9.2)))]) 1 6 := by
  refine pw_openW (by decide) (Nat.le_of_ble_eq_true rfl) ?_
  intro p e s m below meth c ls S hr hlk hTab hl hsz w
  obtain ⟨hx, hb, hml, hown, hts⟩ := id S
  have hl : lv_has ls 8 [(0, .ref a0), (1, .int a), (2, .int b), (3, .int d3), (4, .int fm), (5, .int wl), (6, .ref qo)] := hl
  generalize va_A (px_W a0 af ab o ar cI cO fd nf sg nb lw aw tm G B ++ [(qo, .inl (cL, 1, .inr (.inl f)))]) sz = A at w ⊢
  refine lv_aload hx hb dL_piece_0 (lv_at hl 6 rfl) ?_
  refine lv_iconst (v := 0) hx hb dL_piece_2 (by decide) ?_
  refine lv_aload_n hx hb dL_piece_3 rfl (lv_at hl 0 rfl) ?_
  refine lv_iload_n hx hb dL_piece_4 rfl (lv_at hl 1 rfl) ?_
  refine lv_iload_n hx hb dL_piece_5 rfl (lv_at hl 2 rfl) ?_
  refine lv_iload_n hx hb dL_piece_6 rfl (lv_at hl 3 rfl) ?_
  refine lv_iload hx hb dL_piece_7 (lv_at hl 4 rfl) ?_
  refine lv_iload hx hb dL_piece_9 (lv_at hl 5 rfl) ?_
  have w : pw_S D (px_T cI cO ++ [(cL, .long)]) A ([] ++ (px_W a0 af ab o ar cI cO fd nf sg nb lw aw tm G B ++ [(qo, .inl (cL, 1, .inr (.inl f)))])) s s.heap [] := w
  refine pw_gox w (vx_runV (C := RP) (As := [.int a, .int b, .int d3, .int fm, .int wl]) (rest := [.int 0, .ref qo]) S (px_c_piece l D a0 af ab o ar cI cO fd nf sg nb lw aw tm G B s.heap.size hl9 hnf hnb hsg hlw a b d3 fm wl) (pw_cw (n := 5) S eL_17 iP_piece sP_piece iniP kP_piece rfl rfl (by decide +kernel) ⟨by decide, by decide⟩) ⟨pw_blind, va_recv w.1 w.2.1 (ci := cP) (q0 := 0) rfl rfl, pw_pre w (w.1.sub [0, 1] rfl)⟩ rfl rfl hl.1 rfl (lv_room (Nat.le_of_ble_eq_true rfl)) dL_piece_11 ⟨by decide, by decide⟩) (fun E ce q9 H locs hX w hce hcv hcl => ?_) (fun r u H locs hp w => ?_)
  · rcases hX with ⟨rfl, hX⟩ | ⟨rfl, hX⟩
    · refine vx_catch (own := RL) (name := exIA) (E := exIA) hown [] ⟨0, 16, 19, 13⟩ [⟨0, 16, 23, 15⟩] (by rw [hTab]; rfl) (fun z hz => nomatch hz) (by decide) (by decide) (hts _ cl_exIA) (va_Nw.use rfl (w.2.2.2.2.2.nC ct_exIA)) hce hcv hcl ?_
      refine lv_astore (lv' := [(7, .ref q9), (0, .ref a0), (1, .int a), (2, .int b), (3, .int d3), (4, .int fm), (5, .int wl), (6, .ref qo)]) hx hb dL_piece_19 hl (by decide) rfl (fun ls hl => ?_)
      refine lv_iconst (v := 1) hx hb dL_piece_21 (by decide) ?_
      exact pw_reti S hr hlk (none, f) w (Or.inl ⟨rfl, hX⟩) (by decide) (by decide) dL_piece_22
    · refine vx_catch (own := RL) (name := exIS) (E := exIS) hown [⟨0, 16, 19, 13⟩] ⟨0, 16, 23, 15⟩ [] (by rw [hTab]; rfl) (fun z hz => by rw [List.mem_singleton.mp hz]; exact Or.inr ⟨by decide, exIA, hts _ cl_exIA, w.2.2.2.2.2.nN nc_exIS_exIA⟩) (by decide) (by decide) (hts _ cl_exIS) (va_Nw.use rfl (w.2.2.2.2.2.nC ct_exIS)) hce hcv hcl ?_
      refine lv_astore (lv' := [(7, .ref q9), (0, .ref a0), (1, .int a), (2, .int b), (3, .int d3), (4, .int fm), (5, .int wl), (6, .ref qo)]) hx hb dL_piece_23 hl (by decide) rfl (fun ls hl => ?_)
      refine lv_iconst (v := 2) hx hb dL_piece_25 (by decide) ?_
      exact pw_reti S hr hlk (none, f) w (Or.inr ⟨rfl, hX⟩) (by decide) (by decide) dL_piece_26
  · refine lv_i2l hx hb dL_piece_14 rfl ?_
    refine pw_last S w 13 2 (x := qo) (f := f) (n := 1) (cA := cL) rfl rfl (j := 0) (by decide) (by decide) dL_piece_15 (fun H locs w => ?_)
    refine lv_goto (tgt := 27) hx hb dL_piece_16 (by decide) ?_
    refine lv_iconst (v := 0) hx hb dL_piece_27 (by decide) ?_
    exact pw_reti S hr hlk (some u, vp_updL f 0 r.toInt64) w ⟨rfl, r, hp, rfl⟩ (by decide) (by decide) dL_piece_28

set_option maxHeartbeats 4000000 in
set_option maxRecDepth 100000 in
/-- the law's pass -/
theorem pl_c_pass (l : Launch) (D : va_G) (a0 af ab : Nat) (o ar : Nat → Nat) (cI cO : ClassId) (fd : Nat → Int32) (nf : Nat) (sg : Nat → Nat) (nb : Nat) (lw : Nat) (aw : Int32) (tm : Nat) (G : Nat → px_G) (B : Nat → Nat → Int32) (sz : Nat) (qo : Nat) (cL : ClassId) (f : Nat → Int64) (hl9 : l.stackTraces = false) (htm : tm ≤ 1000000000) (hnb : nb ≤ 4) (hsg : ∀ q, q < 4 → sg q < 5) (n : Int32) : pw_MW l yL_pass cL_pass 4 .int [(0, 9, 12, 13), (0, 9, 15, 15)] ({ frames := 7, cells := 1, slots := 6, locals := 200 }) D (px_T cI cO ++ [(cL, .long)]) [.ref a0, .int n, .ref qo] (px_W a0 af ab o ar cI cO fd nf sg nb lw aw tm G B ++ [(qo, .inl (cL, 1, .inr (.inl f)))]) sz (σ := Option (Nat) × (Nat → Int64)) (fun k y9 => match y9.1 with | none => (k = 1 ∧ ¬ (0 ≤ n.toInt ∧ n.toInt ≤ 1000000)) ∨ (k = 2 ∧ (0 ≤ n.toInt ∧ n.toInt ≤ 1000000) ∧ 1000000000 < (tm : Int) + n.toInt) | some u => k = 0 ∧ ∃ r, (fun r u => u ≤ 1000000 ∧ n = nI u ∧ tm + u ≤ 1000000000 ∧ r = nI (nb - (px_gv (tm + u) G 4 sg nb).2)) r u ∧ y9.2 0 = r.toInt64) (fun y9 => (match y9.1 with | none => px_W a0 af ab o ar cI cO fd nf sg nb lw aw tm G B | some u => px_W a0 af ab o ar cI cO fd nf ((px_gv (tm + u) G 4 sg nb).1) ((px_gv (tm + u) G 4 sg nb).2) lw aw (tm + u) G B) ++ [(qo, .inl (cL, 1, .inr (.inl y9.2)))]) 1 6 := by
  refine pw_openW (by decide) (Nat.le_of_ble_eq_true rfl) ?_
  intro p e s m below meth c ls S hr hlk hTab hl hsz w
  obtain ⟨hx, hb, hml, hown, hts⟩ := id S
  have hl : lv_has ls 4 [(0, .ref a0), (1, .int n), (2, .ref qo)] := hl
  generalize va_A (px_W a0 af ab o ar cI cO fd nf sg nb lw aw tm G B ++ [(qo, .inl (cL, 1, .inr (.inl f)))]) sz = A at w ⊢
  refine lv_aload_n hx hb dL_pass_0 rfl (lv_at hl 2 rfl) ?_
  refine lv_iconst (v := 0) hx hb dL_pass_1 (by decide) ?_
  refine lv_aload_n hx hb dL_pass_2 rfl (lv_at hl 0 rfl) ?_
  refine lv_iload_n hx hb dL_pass_3 rfl (lv_at hl 1 rfl) ?_
  have w : pw_S D (px_T cI cO ++ [(cL, .long)]) A ([] ++ (px_W a0 af ab o ar cI cO fd nf sg nb lw aw tm G B ++ [(qo, .inl (cL, 1, .inr (.inl f)))])) s s.heap [] := w
  refine pw_gox w (vx_runV (C := RP) (As := [.int n]) (rest := [.int 0, .ref qo]) S (px_c_pass l D a0 af ab o ar cI cO fd nf sg nb lw aw tm G B s.heap.size hl9 htm hnb hsg n) (pw_cw (n := 1) S eL_21 iP_pass sP_pass iniP kP_pass rfl rfl (by decide +kernel) ⟨by decide, by decide⟩) ⟨pw_blind, va_recv w.1 w.2.1 (ci := cP) (q0 := 0) rfl rfl, pw_pre w (w.1.sub [0, 1] rfl)⟩ rfl rfl hl.1 rfl (lv_room (Nat.le_of_ble_eq_true rfl)) dL_pass_4 ⟨by decide, by decide⟩) (fun E ce q9 H locs hX w hce hcv hcl => ?_) (fun r u H locs hp w => ?_)
  · rcases hX with ⟨rfl, hX⟩ | ⟨rfl, hX⟩
    · refine vx_catch (own := RL) (name := exIA) (E := exIA) hown [] ⟨0, 9, 12, 13⟩ [⟨0, 9, 15, 15⟩] (by rw [hTab]; rfl) (fun z hz => nomatch hz) (by decide) (by decide) (hts _ cl_exIA) (va_Nw.use rfl (w.2.2.2.2.2.nC ct_exIA)) hce hcv hcl ?_
      refine lv_astore_n (lv' := [(3, .ref q9), (0, .ref a0), (1, .int n), (2, .ref qo)]) hx hb dL_pass_12 rfl hl (by decide) rfl (fun ls hl => ?_)
      refine lv_iconst (v := 1) hx hb dL_pass_13 (by decide) ?_
      exact pw_reti S hr hlk (none, f) w (Or.inl ⟨rfl, hX⟩) (by decide) (by decide) dL_pass_14
    · refine vx_catch (own := RL) (name := exIS) (E := exIS) hown [⟨0, 9, 12, 13⟩] ⟨0, 9, 15, 15⟩ [] (by rw [hTab]; rfl) (fun z hz => by rw [List.mem_singleton.mp hz]; exact Or.inr ⟨by decide, exIA, hts _ cl_exIA, w.2.2.2.2.2.nN nc_exIS_exIA⟩) (by decide) (by decide) (hts _ cl_exIS) (va_Nw.use rfl (w.2.2.2.2.2.nC ct_exIS)) hce hcv hcl ?_
      refine lv_astore_n (lv' := [(3, .ref q9), (0, .ref a0), (1, .int n), (2, .ref qo)]) hx hb dL_pass_15 rfl hl (by decide) rfl (fun ls hl => ?_)
      refine lv_iconst (v := 2) hx hb dL_pass_16 (by decide) ?_
      exact pw_reti S hr hlk (none, f) w (Or.inr ⟨rfl, hX⟩) (by decide) (by decide) dL_pass_17
  · refine lv_i2l hx hb dL_pass_7 rfl ?_
    refine pw_last S w 13 2 (x := qo) (f := f) (n := 1) (cA := cL) rfl rfl (j := 0) (by decide) (by decide) dL_pass_8 (fun H locs w => ?_)
    refine lv_goto (tgt := 18) hx hb dL_pass_9 (by decide) ?_
    refine lv_iconst (v := 0) hx hb dL_pass_18 (by decide) ?_
    exact pw_reti S hr hlk (some u, vp_updL f 0 r.toInt64) w ⟨rfl, r, hp, rfl⟩ (by decide) (by decide) dL_pass_19

set_option maxHeartbeats 4000000 in
set_option maxRecDepth 100000 in
/-- the law's about -/
theorem pl_c_about (l : Launch) (D : va_G) (a0 af ab : Nat) (o ar : Nat → Nat) (cI cO : ClassId) (fd : Nat → Int32) (nf : Nat) (sg : Nat → Nat) (nb : Nat) (lw : Nat) (aw : Int32) (tm : Nat) (G : Nat → px_G) (B : Nat → Nat → Int32) (sz : Nat) (qo : Nat) (cL : ClassId) (f : Nat → Int64) (hl9 : l.stackTraces = false) (hlw : lw < 5) (n : Int32) : pw_MW l yL_about cL_about 4 .int [(0, 9, 12, 13), (0, 9, 15, 15)] ({ frames := 7, cells := 1, slots := 6, locals := 200 }) D (px_T cI cO ++ [(cL, .long)]) [.ref a0, .int n, .ref qo] (px_W a0 af ab o ar cI cO fd nf sg nb lw aw tm G B ++ [(qo, .inl (cL, 1, .inr (.inl f)))]) sz (σ := Option (Unit) × (Nat → Int64)) (fun k y9 => match y9.1 with | none => (k = 1 ∧ ¬ (0 ≤ n.toInt ∧ n.toInt ≤ 3)) ∨ (k = 2 ∧ (0 ≤ n.toInt ∧ n.toInt ≤ 3) ∧ aw = 0) | some u => k = 0 ∧ ∃ r, (fun r _ => (0 ≤ n.toInt ∧ n.toInt ≤ 3) ∧ ¬ aw = 0 ∧ r = px_ab (G lw) n) r u ∧ y9.2 0 = r.toInt64) (fun y9 => (match y9.1 with | none => px_W a0 af ab o ar cI cO fd nf sg nb lw aw tm G B | some _ => px_W a0 af ab o ar cI cO fd nf sg nb lw aw tm G B) ++ [(qo, .inl (cL, 1, .inr (.inl y9.2)))]) 1 6 := by
  refine pw_openW (by decide) (Nat.le_of_ble_eq_true rfl) ?_
  intro p e s m below meth c ls S hr hlk hTab hl hsz w
  obtain ⟨hx, hb, hml, hown, hts⟩ := id S
  have hl : lv_has ls 4 [(0, .ref a0), (1, .int n), (2, .ref qo)] := hl
  generalize va_A (px_W a0 af ab o ar cI cO fd nf sg nb lw aw tm G B ++ [(qo, .inl (cL, 1, .inr (.inl f)))]) sz = A at w ⊢
  refine lv_aload_n hx hb dL_about_0 rfl (lv_at hl 2 rfl) ?_
  refine lv_iconst (v := 0) hx hb dL_about_1 (by decide) ?_
  refine lv_aload_n hx hb dL_about_2 rfl (lv_at hl 0 rfl) ?_
  refine lv_iload_n hx hb dL_about_3 rfl (lv_at hl 1 rfl) ?_
  have w : pw_S D (px_T cI cO ++ [(cL, .long)]) A ([] ++ (px_W a0 af ab o ar cI cO fd nf sg nb lw aw tm G B ++ [(qo, .inl (cL, 1, .inr (.inl f)))])) s s.heap [] := w
  refine pw_gox w (vx_runV (C := RP) (As := [.int n]) (rest := [.int 0, .ref qo]) S (px_c_about l D a0 af ab o ar cI cO fd nf sg nb lw aw tm G B s.heap.size hl9 hlw n) (pw_cw (n := 1) S eL_25 iP_about sP_about iniP kP_about rfl rfl (by decide +kernel) ⟨by decide, by decide⟩) ⟨pw_blind, va_recv w.1 w.2.1 (ci := cP) (q0 := 0) rfl rfl, pw_pre w (w.1.sub [0, 1] rfl)⟩ rfl rfl hl.1 rfl (lv_room (Nat.le_of_ble_eq_true rfl)) dL_about_4 ⟨by decide, by decide⟩) (fun E ce q9 H locs hX w hce hcv hcl => ?_) (fun r u H locs hp w => ?_)
  · rcases hX with ⟨rfl, hX⟩ | ⟨rfl, hX⟩
    · refine vx_catch (own := RL) (name := exIA) (E := exIA) hown [] ⟨0, 9, 12, 13⟩ [⟨0, 9, 15, 15⟩] (by rw [hTab]; rfl) (fun z hz => nomatch hz) (by decide) (by decide) (hts _ cl_exIA) (va_Nw.use rfl (w.2.2.2.2.2.nC ct_exIA)) hce hcv hcl ?_
      refine lv_astore_n (lv' := [(3, .ref q9), (0, .ref a0), (1, .int n), (2, .ref qo)]) hx hb dL_about_12 rfl hl (by decide) rfl (fun ls hl => ?_)
      refine lv_iconst (v := 1) hx hb dL_about_13 (by decide) ?_
      exact pw_reti S hr hlk (none, f) w (Or.inl ⟨rfl, hX⟩) (by decide) (by decide) dL_about_14
    · refine vx_catch (own := RL) (name := exIS) (E := exIS) hown [⟨0, 9, 12, 13⟩] ⟨0, 9, 15, 15⟩ [] (by rw [hTab]; rfl) (fun z hz => by rw [List.mem_singleton.mp hz]; exact Or.inr ⟨by decide, exIA, hts _ cl_exIA, w.2.2.2.2.2.nN nc_exIS_exIA⟩) (by decide) (by decide) (hts _ cl_exIS) (va_Nw.use rfl (w.2.2.2.2.2.nC ct_exIS)) hce hcv hcl ?_
      refine lv_astore_n (lv' := [(3, .ref q9), (0, .ref a0), (1, .int n), (2, .ref qo)]) hx hb dL_about_15 rfl hl (by decide) rfl (fun ls hl => ?_)
      refine lv_iconst (v := 2) hx hb dL_about_16 (by decide) ?_
      exact pw_reti S hr hlk (none, f) w (Or.inr ⟨rfl, hX⟩) (by decide) (by decide) dL_about_17
  · refine lv_i2l hx hb dL_about_7 rfl ?_
    refine pw_last S w 13 2 (x := qo) (f := f) (n := 1) (cA := cL) rfl rfl (j := 0) (by decide) (by decide) dL_about_8 (fun H locs w => ?_)
    refine lv_goto (tgt := 18) hx hb dL_about_9 (by decide) ?_
    refine lv_iconst (v := 0) hx hb dL_about_18 (by decide) ?_
    exact pw_reti S hr hlk (some u, vp_updL f 0 r.toInt64) w ⟨rfl, r, hp, rfl⟩ (by decide) (by decide) dL_about_19

set_option maxHeartbeats 4000000 in
set_option maxRecDepth 100000 in
/-- the law's byteAt -/
theorem pl_c_byteAt (l : Launch) (D : va_G) (a0 af ab : Nat) (o ar : Nat → Nat) (cI cO : ClassId) (fd : Nat → Int32) (nf : Nat) (sg : Nat → Nat) (nb : Nat) (lw : Nat) (aw : Int32) (tm : Nat) (G : Nat → px_G) (B : Nat → Nat → Int32) (sz : Nat) (qo : Nat) (cL : ClassId) (f : Nat → Int64) (hl9 : l.stackTraces = false) (hlw : lw < 5) (zs : Nat) (hzs : ¬ aw = 0 → (G lw).2.2.2.1 = nI zs ∧ zs ≤ 1480) (i : Int32) : pw_MW l yL_byteAt cL_byteAt 4 .int [(0, 9, 12, 15), (0, 9, 15, 31)] ({ frames := 7, cells := 1, slots := 6, locals := 200 }) D (px_T cI cO ++ [(cL, .long)]) [.ref a0, .int i, .ref qo] (px_W a0 af ab o ar cI cO fd nf sg nb lw aw tm G B ++ [(qo, .inl (cL, 1, .inr (.inl f)))]) sz (σ := Option (Unit) × (Nat → Int64)) (fun k y9 => match y9.1 with | none => (k = 1 ∧ aw = 0) ∨ (k = 2 ∧ ¬ aw = 0 ∧ ¬ (0 ≤ i.toInt ∧ i.toInt < zs)) | some u => k = 0 ∧ ∃ r, (fun r _ => ¬ aw = 0 ∧ ∃ i9, i9 < zs ∧ i = nI i9 ∧ r = B lw i9) r u ∧ y9.2 0 = r.toInt64) (fun y9 => (match y9.1 with | none => px_W a0 af ab o ar cI cO fd nf sg nb lw aw tm G B | some _ => px_W a0 af ab o ar cI cO fd nf sg nb lw aw tm G B) ++ [(qo, .inl (cL, 1, .inr (.inl y9.2)))]) 1 6 := by
  refine pw_openW (by decide) (Nat.le_of_ble_eq_true rfl) ?_
  intro p e s m below meth c ls S hr hlk hTab hl hsz w
  obtain ⟨hx, hb, hml, hown, hts⟩ := id S
  have hl : lv_has ls 4 [(0, .ref a0), (1, .int i), (2, .ref qo)] := hl
  generalize va_A (px_W a0 af ab o ar cI cO fd nf sg nb lw aw tm G B ++ [(qo, .inl (cL, 1, .inr (.inl f)))]) sz = A at w ⊢
  refine lv_aload_n hx hb dL_byteAt_0 rfl (lv_at hl 2 rfl) ?_
  refine lv_iconst (v := 0) hx hb dL_byteAt_1 (by decide) ?_
  refine lv_aload_n hx hb dL_byteAt_2 rfl (lv_at hl 0 rfl) ?_
  refine lv_iload_n hx hb dL_byteAt_3 rfl (lv_at hl 1 rfl) ?_
  have w : pw_S D (px_T cI cO ++ [(cL, .long)]) A ([] ++ (px_W a0 af ab o ar cI cO fd nf sg nb lw aw tm G B ++ [(qo, .inl (cL, 1, .inr (.inl f)))])) s s.heap [] := w
  refine pw_gox w (vx_runV (C := RP) (As := [.int i]) (rest := [.int 0, .ref qo]) S (px_c_byteAt l D a0 af ab o ar cI cO fd nf sg nb lw aw tm G B s.heap.size hl9 hlw zs hzs i) (pw_cw (n := 1) S eL_28 iP_byteAt sP_byteAt iniP kP_byteAt rfl rfl (by decide +kernel) ⟨by decide, by decide⟩) ⟨pw_blind, va_recv w.1 w.2.1 (ci := cP) (q0 := 0) rfl rfl, pw_pre w (w.1.sub [0, 1] rfl)⟩ rfl rfl hl.1 rfl (lv_room (Nat.le_of_ble_eq_true rfl)) dL_byteAt_4 ⟨by decide, by decide⟩) (fun E ce q9 H locs hX w hce hcv hcl => ?_) (fun r u H locs hp w => ?_)
  · rcases hX with ⟨rfl, hX⟩ | ⟨rfl, hX⟩
    · refine vx_catch (own := RL) (name := exIS) (E := exIS) hown [] ⟨0, 9, 12, 15⟩ [⟨0, 9, 15, 31⟩] (by rw [hTab]; rfl) (fun z hz => nomatch hz) (by decide) (by decide) (hts _ cl_exIS) (va_Nw.use rfl (w.2.2.2.2.2.nC ct_exIS)) hce hcv hcl ?_
      refine lv_astore_n (lv' := [(3, .ref q9), (0, .ref a0), (1, .int i), (2, .ref qo)]) hx hb dL_byteAt_12 rfl hl (by decide) rfl (fun ls hl => ?_)
      refine lv_iconst (v := 1) hx hb dL_byteAt_13 (by decide) ?_
      exact pw_reti S hr hlk (none, f) w (Or.inl ⟨rfl, hX⟩) (by decide) (by decide) dL_byteAt_14
    · refine vx_catch (own := RL) (name := exIB) (E := exIB) hown [⟨0, 9, 12, 15⟩] ⟨0, 9, 15, 31⟩ [] (by rw [hTab]; rfl) (fun z hz => by rw [List.mem_singleton.mp hz]; exact Or.inr ⟨by decide, exIS, hts _ cl_exIS, w.2.2.2.2.2.nN nc_exIB_exIS⟩) (by decide) (by decide) (hts _ cl_exIB) (va_Nw.use rfl (w.2.2.2.2.2.nC ct_exIB)) hce hcv hcl ?_
      refine lv_astore_n (lv' := [(3, .ref q9), (0, .ref a0), (1, .int i), (2, .ref qo)]) hx hb dL_byteAt_15 rfl hl (by decide) rfl (fun ls hl => ?_)
      refine lv_iconst (v := 2) hx hb dL_byteAt_16 (by decide) ?_
      exact pw_reti S hr hlk (none, f) w (Or.inr ⟨rfl, hX⟩) (by decide) (by decide) dL_byteAt_17
  · refine lv_i2l hx hb dL_byteAt_7 rfl ?_
    refine pw_last S w 13 2 (x := qo) (f := f) (n := 1) (cA := cL) rfl rfl (j := 0) (by decide) (by decide) dL_byteAt_8 (fun H locs w => ?_)
    refine lv_goto (tgt := 18) hx hb dL_byteAt_9 (by decide) ?_
    refine lv_iconst (v := 0) hx hb dL_byteAt_18 (by decide) ?_
    exact pw_reti S hr hlk (some u, vp_updL f 0 r.toInt64) w ⟨rfl, r, hp, rfl⟩ (by decide) (by decide) dL_byteAt_19
end
section
/-! how class and reference stand to each other -/
/-- one datagram that waits: the class's numbers g and bytes b beside the reference's -/
def pr_d (g : px_G) (b : Nat → Int32) (s go n w si : Int32) (p : Nat → Int32) : Prop :=
  ∃ z : Nat, g = (s, go, n, w, nI (pa_c b z), si) ∧ w = nI z ∧ 1 ≤ z ∧ z ≤ 1480 ∧ (∀ i, i < 1480 → p i = b i) ∧ ∀ i, i < 1480 → b i = -1 ∨ ¬ b i < 0
/-- those that wait -/
def pr_W (sg : Nat → Nat) (nb lw : Nat) (G : Nat → px_G) (B : Nat → Nat → Int32) (sc gl nu si wh pl : Nat → Int32) : Prop :=
  nb ≤ 4 ∧ px_inj sg lw ∧ (∀ q, q < nb → pr_d (G (sg q)) (B (sg q)) (sc q) (gl q) (nu q) (wh q) (si q) (fun i => pl (1480 * q + i))) ∧ ∀ q r, q < nb → r < nb → sc q = sc r → gl q = gl r → nu q = nu r → q = r
/-- the one that was whole last -/
def pr_L (lw : Nat) (aw : Int32) (G : Nat → px_G) (B : Nat → Nat → Int32) (sm ms mg mn mk : Int32) (md : Nat → Int32) : Prop :=
  aw = sm ∧ (¬ aw = 0 → ∃ z : Nat, (G lw).1 = ms ∧ (G lw).2.1 = mg ∧ (G lw).2.2.1 = mn ∧ (G lw).2.2.2.1 = nI z ∧ mk = nI z ∧ z ≤ 1480 ∧ ∀ i, i < z → B lw i = md i)
/-- what is fed -/
def pr_F (fd : Nat → Int32) (nf : Nat) (me : Nat → Int32) : Prop := nf ≤ 1480 ∧ ∀ i, i < nf → fd i = me i ∧ ¬ fd i < 0
theorem pr_neg {x : Int32} (h : x = -1) : x < 0 := by rw [h]; decide
theorem pr_pi {f : Nat → Int32} {k nb q : Nat} (hq : q + 1 < nb) : pm_s1 f k (nb - 1) q = f (px_pi k nb q) := by
  unfold pm_s1 px_pi
  rw [if_neg (show ¬ q + 1 = nb by omega)]
  by_cases h : k ≤ q
  · rw [if_pos ⟨h, by omega⟩, if_pos ⟨h, hq⟩]
  · rw [if_neg (fun z => h z.1), if_neg (fun z => h z.1)]
theorem pr_pl {f : Nat → Int32} {k nb q i : Nat} (hq : q + 1 < nb) (hi : i < 1480) : pm_s2 f (1480 * k) (1480 * (nb - 1)) (1480 * q + i) = f (1480 * px_pi k nb q + i) := by
  unfold pm_s2 px_pi
  rw [if_neg (show ¬ q + 1 = nb by omega)]
  by_cases h : k ≤ q
  · rw [if_pos (by omega), if_pos ⟨h, hq⟩]
    congr 1
    omega
  · rw [if_neg (by omega), if_neg (fun z => h z.1)]
theorem pr_d_congr {g : px_G} {b : Nat → Int32} {s go n w si : Int32} {p p' : Nat → Int32} (h : pr_d g b s go n w si p) (e : ∀ i, i < 1480 → p' i = p i) : pr_d g b s go n w si p' := by
  obtain ⟨z, h1, h2, h3, h4, h5, h6⟩ := h
  exact ⟨z, h1, h2, h3, h4, fun i hi => (e i hi).trans (h5 i hi), h6⟩
theorem px_pi_ltn {k nb q : Nat} (hk : k < nb) (hq : q + 1 < nb) : px_pi k nb q < nb := by
  unfold px_pi
  split
  · omega
  · split <;> omega
/-- one is forgotten -/
theorem pr_rot {sg : Nat → Nat} {nb lw k : Nat} {G : Nat → px_G} {B : Nat → Nat → Int32} {sc gl nu si wh pl : Nat → Int32} (h : pr_W sg nb lw G B sc gl nu si wh pl) (hk : k < nb) :
    pr_W (px_rot sg k nb) (nb - 1) lw G B (pm_s1 sc k (nb - 1)) (pm_s1 gl k (nb - 1)) (pm_s1 nu k (nb - 1)) (pm_s1 si k (nb - 1)) (pm_s1 wh k (nb - 1)) (pm_s2 pl (1480 * k) (1480 * (nb - 1))) := by
  obtain ⟨h1, h2, h3, h4⟩ := h
  refine ⟨by omega, px_inj_rot h2 hk h1, fun q hq => ?_, fun q r hq hr e1 e2 e3 => ?_⟩
  · rw [px_rot_pi hk, pr_pi (by omega), pr_pi (by omega), pr_pi (by omega), pr_pi (by omega), pr_pi (by omega)]
    exact pr_d_congr (h3 _ (px_pi_ltn hk (by omega))) (fun i hi => pr_pl (by omega) hi)
  · rw [pr_pi (by omega), pr_pi (by omega)] at e1 e2 e3
    exact px_pi_inj hk (h4 _ _ (px_pi_ltn hk (by omega)) (px_pi_ltn hk (by omega)) e1 e2 e3)
/-- the places that the two find are the same -/
theorem pr_tl {sg : Nat → Nat} {nb lw q : Nat} {G : Nat → px_G} {B : Nat → Nat → Int32} {sc gl nu si wh pl : Nat → Int32} {a b c : Int32} (h : pr_W sg nb lw G B sc gl nu si wh pl) (hq : q < nb) : px_tl (G (sg q)) a b c ↔ pm_tl sc gl nu q a b c := by
  obtain ⟨z, e, -⟩ := h.2.2.1 q hq
  rw [e]
  exact Iff.rfl
theorem pr_fnd {sg : Nat → Nat} {nb lw : Nat} {G : Nat → px_G} {B : Nat → Nat → Int32} {sc gl nu si wh pl : Nat → Int32} {a b c : Int32} {x y : Option Nat} (h : pr_W sg nb lw G B sc gl nu si wh pl) (h1 : px_fnd sg G nb a b c x) (h2 : pm_fnd sc gl nu nb a b c y) : x = y := by
  cases x with
  | none =>
    cases y with
    | none => rfl
    | some j => exact absurd ((pr_tl h h2.1).mpr h2.2.1) (h1 j h2.1)
  | some k =>
    cases y with
    | none => exact absurd ((pr_tl h h1.1).mp h1.2.1) (h2 k h1.1)
    | some j =>
      have t1 := (pr_tl h h1.1).mp h1.2.1
      have t2 := h2.2.1
      rw [h.2.2.2 k j h1.1 h2.1 (t1.1.trans t2.1.symm) (t1.2.1.trans t2.2.1.symm) (t1.2.2.trans t2.2.2.symm)]
/-- one datagram changes -/
theorem pr_up {sg : Nat → Nat} {nb lw k : Nat} {G : Nat → px_G} {B : Nat → Nat → Int32} {sc gl nu si wh pl pl' : Nat → Int32} {g : px_G} {b : Nat → Int32} (h : pr_W sg nb lw G B sc gl nu si wh pl) (hk : k < nb)
    (hd : pr_d g b (sc k) (gl k) (nu k) (wh k) (si k) (fun i => pl' (1480 * k + i))) (ho : ∀ q i, q < nb → ¬ q = k → i < 1480 → pl' (1480 * q + i) = pl (1480 * q + i)) : pr_W sg nb lw (va_up G (sg k) g) (va_up B (sg k) b) sc gl nu si wh pl' := by
  obtain ⟨h1, h2, h3, h4⟩ := h
  refine ⟨h1, h2, fun q hq => ?_, h4⟩
  by_cases e : q = k
  · subst e
    rw [va_up_self, va_up_self]
    exact hd
  · have hne : ¬ sg q = sg k := fun z => e (h2.2.2.1 q k (by omega) (by omega) z)
    rw [va_up_ne _ _ hne, va_up_ne _ _ hne]
    exact pr_d_congr (h3 q hq) (fun i hi => ho q i hq e hi)
theorem pm_tB_at (pl fd : Nat → Int32) (lo : Nat) : ∀ (k i : Nat), pm_tB pl fd lo k i = if lo ≤ i ∧ i < lo + k ∧ pl i < 0 then fd (i - lo) else pl i
  | 0, i => by
    rw [if_neg (by omega)]
    rfl
  | k + 1, i => by
    have e0 : pm_tB pl fd lo (k + 1) = upd (pm_tB pl fd lo k) (lo + k) (if pm_tB pl fd lo k (lo + k) < 0 then fd k else pm_tB pl fd lo k (lo + k)) := rfl
    have e : pm_tB pl fd lo k (lo + k) = pl (lo + k) := by rw [pm_tB_at pl fd lo k, if_neg (by omega)]
    rw [e0, e]
    by_cases hi : i = lo + k
    · subst hi
      rw [pk_us]
      by_cases h : pl (lo + k) < 0
      · rw [if_pos h, if_pos ⟨by omega, by omega, h⟩, Nat.add_sub_cancel_left]
      · rw [if_neg h, if_neg (fun z => h z.2.2)]
    · rw [pk_un hi, pm_tB_at pl fd lo k]
      by_cases h2 : lo ≤ i ∧ i < lo + k ∧ pl i < 0
      · rw [if_pos h2, if_pos ⟨h2.1, by omega, h2.2.2⟩]
      · rw [if_neg h2, if_neg (fun z => h2 ⟨z.1, by omega, z.2.2⟩)]
theorem pr_c {f b : Nat → Int32} : ∀ {n : Nat}, (∀ i, i < n → f i = b i) → (∀ i, i < n → b i = -1 ∨ ¬ b i < 0) → pm_c f n = pa_c b n
  | 0, _, _ => rfl
  | n + 1, h1, h2 => by
    unfold pm_c pa_c
    rw [pr_c (n := n) (fun i hi => h1 i (by omega)) (fun i hi => h2 i (by omega)), h1 n (by omega)]
    rcases h2 n (by omega) with e | e
    · rw [if_pos e, if_pos (pr_neg e)]
    · rw [if_neg e, if_neg (fun z => e (pr_neg z))]
/-- a piece's bytes come -/
theorem pr_take {sg : Nat → Nat} {nb lw k fr nf z : Nat} {G : Nat → px_G} {B : Nat → Nat → Int32} {sc gl nu si wh pl fd me : Nat → Int32} (h : pr_W sg nb lw G B sc gl nu si wh pl) (hk : k < nb) (hf : pr_F fd nf me) (hz : wh k = nI z) (hz2 : z ≤ 1480) (hfit : fr + nf ≤ z) :
    px_tL (B (sg k)) fd fr (G (sg k)).2.2.2.2.1 nf = nI (pa_c (px_tB (B (sg k)) fd fr nf) z) ∧
    pm_c (fun i => pm_tB pl me (1480 * k + fr) nf (1480 * k + i)) z = pa_c (px_tB (B (sg k)) fd fr nf) z ∧
    (∀ i, i < 1480 → pm_tB pl me (1480 * k + fr) nf (1480 * k + i) = px_tB (B (sg k)) fd fr nf i) ∧
    pr_W sg nb lw (va_up G (sg k) ((G (sg k)).1, (G (sg k)).2.1, (G (sg k)).2.2.1, (G (sg k)).2.2.2.1, px_tL (B (sg k)) fd fr (G (sg k)).2.2.2.2.1 nf, (G (sg k)).2.2.2.2.2)) (va_up B (sg k) (px_tB (B (sg k)) fd fr nf)) sc gl nu si wh (pm_tB pl me (1480 * k + fr) nf) := by
  obtain ⟨z', e1, e2, e3, e4, e5, e6⟩ := h.2.2.1 k hk
  have ez : z' = z := (nI_eq (by omega) (by omega)).mp (e2.symm.trans hz)
  subst ez
  have hL : px_tL (B (sg k)) fd fr (G (sg k)).2.2.2.2.1 nf = nI (pa_c (px_tB (B (sg k)) fd fr nf) z') := by
    rw [e1]
    exact pa_tL hfit (fun i hi q => (hf.2 i hi).2 (pr_neg q))
  have hp : ∀ i, i < 1480 → pm_tB pl me (1480 * k + fr) nf (1480 * k + i) = px_tB (B (sg k)) fd fr nf i := by
    intro i hi
    rw [pm_tB_at, pa_tB]
    have e := e5 i hi
    have e : pl (1480 * k + i) = B (sg k) i := e
    rw [e]
    by_cases hc : fr ≤ i ∧ i < fr + nf ∧ B (sg k) i = -1
    · rw [if_pos ⟨by omega, by omega, pr_neg hc.2.2⟩, if_pos hc, show 1480 * k + i - (1480 * k + fr) = i - fr by omega]
      exact (hf.2 _ (by omega)).1.symm
    · rw [if_neg hc, if_neg (fun q => hc ⟨by omega, by omega, by
        rcases e6 i hi with z9 | z9
        · exact z9
        · exact absurd q.2.2 z9⟩)]
  have hb : ∀ i, i < 1480 → px_tB (B (sg k)) fd fr nf i = -1 ∨ ¬ px_tB (B (sg k)) fd fr nf i < 0 := by
    intro i hi
    rw [pa_tB]
    by_cases hc : fr ≤ i ∧ i < fr + nf ∧ B (sg k) i = -1
    · rw [if_pos hc]
      exact Or.inr (hf.2 _ (by omega)).2
    · rw [if_neg hc]
      exact e6 i hi
  refine ⟨hL, pr_c (fun i hi => hp i (by omega)) (fun i hi => hb i (by omega)), hp, pr_up h hk ⟨z', ?_, e2, e3, e4, hp, hb⟩ (fun q i hq hne hi => ?_)⟩
  · rw [hL, e1]
  · rw [pm_tB_at, if_neg]
    intro z9
    rcases Nat.lt_or_ge q k with y | y
    · omega
    · have : k + 1 ≤ q := by omega
      omega
/-- it is whole -/
theorem pr_fin {sg : Nat → Nat} {nb lw k z : Nat} {G : Nat → px_G} {B : Nat → Nat → Int32} {sc gl nu si wh pl md : Nat → Int32} (h : pr_W sg nb lw G B sc gl nu si wh pl) (hk : k < nb) (hz : wh k = nI z) (hz2 : z ≤ 1480) :
    pr_W (va_up (px_rot sg k nb) (nb - 1) lw) (nb - 1) (px_rot sg k nb (nb - 1)) G B (pm_s1 sc k (nb - 1)) (pm_s1 gl k (nb - 1)) (pm_s1 nu k (nb - 1)) (pm_s1 si k (nb - 1)) (pm_s1 wh k (nb - 1)) (pm_s2 pl (1480 * k) (1480 * (nb - 1))) ∧
    pr_L (px_rot sg k nb (nb - 1)) 1 G B 1 (sc k) (gl k) (nu k) (wh k) (pm_cp md pl (1480 * k) z) := by
  obtain ⟨z', e1, e2, e3, e4, e5, e6⟩ := h.2.2.1 k hk
  have ez : z' = z := (nI_eq (by omega) (by omega)).mp (e2.symm.trans hz)
  subst ez
  have hn := h.1
  obtain ⟨r1, r2, r3, r4⟩ := pr_rot h hk
  have el : px_rot sg k nb (nb - 1) = sg k := by rw [px_rot_pi hk]; unfold px_pi; rw [if_pos (by omega)]
  refine ⟨⟨r1, px_inj_swap r2 (by omega), fun q hq => ?_, r4⟩, rfl, fun _ => ⟨z', ?_⟩⟩
  · rw [va_up_ne _ _ (show ¬ q = nb - 1 by omega)]
    exact r3 q hq
  · rw [el, e1]
    refine ⟨rfl, rfl, rfl, e2, e2, e4, fun i hi => ?_⟩
    unfold pm_cp
    rw [if_pos hi]
    exact (e5 i (by omega)).symm
end
section
/-! what the calls do to the relation -/
theorem pr_room {sg : Nat → Nat} {nb lw : Nat} {G : Nat → px_G} {B : Nat → Nat → Int32} {sc gl nu si wh pl : Nat → Int32} (h : pr_W sg nb lw G B sc gl nu si wh pl) :
    pr_W (px_mk sg nb).1 (px_mk sg nb).2 lw G B (pm_mk nb sc) (pm_mk nb gl) (pm_mk nb nu) (pm_mk nb si) (pm_mk nb wh) (pm_mk2 nb pl) ∧ (px_mk sg nb).2 = pm_mkn nb := by
  by_cases e : nb = 4
  · subst e
    exact ⟨pr_rot h (show 0 < 4 by omega), rfl⟩
  · unfold px_mk pm_mk pm_mk2 pm_mkn
    rw [if_neg e, if_neg e, if_neg e, if_neg e, if_neg e, if_neg e, if_neg e, if_neg e]
    exact ⟨h, rfl⟩
theorem pr_no {sc gl nu : Nat → Int32} {nb : Nat} {a b c : Int32} (hn : nb ≤ 4) (h : ∀ q, q < nb → ¬ pm_tl sc gl nu q a b c) : ∀ q, q < pm_mkn nb → ¬ pm_tl (pm_mk nb sc) (pm_mk nb gl) (pm_mk nb nu) q a b c := by
  intro q hq
  by_cases e : nb = 4
  · subst e
    have hq : q < 3 := hq
    have e1 : ∀ f : Nat → Int32, pm_mk 4 f q = f (q + 1) := fun f => if_pos ⟨Nat.zero_le q, hq⟩
    unfold pm_tl
    rw [e1, e1, e1]
    exact h (q + 1) (by omega)
  · unfold pm_mkn at hq
    rw [if_neg e] at hq
    unfold pm_mk
    rw [if_neg e, if_neg e, if_neg e]
    exact h q hq
theorem pr_new {sg : Nat → Nat} {nb lw z : Nat} {G : Nat → px_G} {B : Nat → Nat → Int32} {sc gl nu si wh pl : Nat → Int32} {a b c wl t : Int32} (h : pr_W sg nb lw G B sc gl nu si wh pl) (hn : nb ≤ 3) (hno : ∀ q, q < nb → ¬ pm_tl sc gl nu q a b c) (hz : wl = nI z) (hz1 : 1 ≤ z) (hz2 : z ≤ 1480) :
    pr_W sg (nb + 1) lw (va_up G (sg nb) (a, b, c, wl, wl, t)) (va_up B (sg nb) (px_fl (B (sg nb)) (-1) 1480)) (upd sc nb a) (upd gl nb b) (upd nu nb c) (upd si nb t) (upd wh nb wl) (pm_fl pl (1480 * nb) 1480) := by
  obtain ⟨h1, h2, h3, h4⟩ := h
  have hfl : ∀ i, i < 1480 → px_fl (B (sg nb)) (-1) 1480 i = -1 := fun i hi => if_pos hi
  refine ⟨by omega, h2, fun q hq => ?_, fun q r hq hr e1 e2 e3 => ?_⟩
  · by_cases e : q = nb
    · subst e
      rw [va_up_self, va_up_self, pk_us, pk_us, pk_us, pk_us, pk_us]
      refine ⟨z, ?_, hz, hz1, hz2, fun i hi => ?_, fun i hi => Or.inl (hfl i hi)⟩
      · rw [pa_c_all (fun i hi => hfl i (by omega)), ← hz]
      · rw [hfl i hi]
        exact if_pos (by omega)
    · have hne : ¬ sg q = sg nb := fun y => e (h2.2.2.1 q nb (by omega) (by omega) y)
      rw [va_up_ne _ _ hne, va_up_ne _ _ hne, pk_un e, pk_un e, pk_un e, pk_un e, pk_un e]
      exact pr_d_congr (h3 q (by omega)) (fun i hi => if_neg (by omega))
  · by_cases x : q = nb <;> by_cases y : r = nb
    · omega
    · subst x
      rw [pk_us, pk_un y] at e1 e2 e3
      exact absurd ⟨e1.symm, e2.symm, e3.symm⟩ (hno r (by omega))
    · subst y
      rw [pk_us, pk_un x] at e1 e2 e3
      exact absurd ⟨e1, e2, e3⟩ (hno q (by omega))
    · rw [pk_un x, pk_un y] at e1 e2 e3
      exact h4 q r (by omega) (by omega) e1 e2 e3
theorem pr_L_up {lw j : Nat} {aw : Int32} {G : Nat → px_G} {B : Nat → Nat → Int32} {sm ms mg mn mk : Int32} {md : Nat → Int32} {g : px_G} {b : Nat → Int32} (h : pr_L lw aw G B sm ms mg mn mk md) (hj : ¬ j = lw) : pr_L lw aw (va_up G j g) (va_up B j b) sm ms mg mn mk md := by
  refine ⟨h.1, fun ha => ?_⟩
  rw [va_up_ne _ _ (fun e => hj e.symm), va_up_ne _ _ (fun e => hj e.symm)]
  exact h.2 ha
/-- class and reference behind piece -/
def pr_P (X : px_R) (M : pm_R) : Prop :=
  X.2.1 = M.1 ∧ pr_W X.1 X.2.1 X.2.2.1 X.2.2.2.2.1 X.2.2.2.2.2 M.2.1 M.2.2.1 M.2.2.2.1 M.2.2.2.2.1 M.2.2.2.2.2.1 M.2.2.2.2.2.2.1 ∧
  pr_L X.2.2.1 X.2.2.2.1 X.2.2.2.2.1 X.2.2.2.2.2 M.2.2.2.2.2.2.2.1 M.2.2.2.2.2.2.2.2.1 M.2.2.2.2.2.2.2.2.2.1 M.2.2.2.2.2.2.2.2.2.2.1 M.2.2.2.2.2.2.2.2.2.2.2.1 M.2.2.2.2.2.2.2.2.2.2.2.2
theorem pr_tk {sg : Nat → Nat} {nb lw k fr nf z : Nat} {aw wl : Int32} {G : Nat → px_G} {B : Nat → Nat → Int32} {sc gl nu si wh pl fd me : Nat → Int32} {sm ms mg mn mk : Int32} {md : Nat → Int32} (h : pr_W sg nb lw G B sc gl nu si wh pl) (hL : pr_L lw aw G B sm ms mg mn mk md) (hF : pr_F fd nf me) (hk : k < nb) (hwl : wl = nI z) (hz : wh k = nI z) (hz2 : z ≤ 1480) (hfit : fr + nf ≤ z) :
    (px_tk fd nf fr wl k sg nb lw aw G B).1 = (pm_tk me nf fr k z nb sc gl nu si wh pl sm ms mg mn mk md).1 ∧ pr_P (px_tk fd nf fr wl k sg nb lw aw G B).2 (pm_tk me nf fr k z nb sc gl nu si wh pl sm ms mg mn mk md).2 := by
  obtain ⟨t1, t2, t3, t4⟩ := pr_take h hk hF hz hz2 hfit
  obtain ⟨z', e1, e2, -⟩ := h.2.2.1 k hk
  have hs : (G (sg k)).2.2.2.1 = wl := by rw [e1, hwl]; exact hz
  have hne : ¬ sg k = lw := h.2.1.2.2.2 k (by have := h.1; omega)
  have hle := pa_c_le (px_tB (B (sg k)) fd fr nf) z
  unfold px_tk pm_tk
  rw [if_pos hs, t2]
  by_cases hc : pa_c (px_tB (B (sg k)) fd fr nf) z = 0
  · rw [if_pos hc, if_pos (show px_tL (B (sg k)) fd fr (G (sg k)).2.2.2.2.1 nf ≤ 0 by rw [t1, hc]; exact nI_le (Nat.le_refl 0) (by decide))]
    obtain ⟨f1, f2⟩ := pr_fin (md := md) t4 hk hz hz2
    exact ⟨rfl, rfl, f1, f2⟩
  · rw [if_neg hc, if_neg (show ¬ px_tL (B (sg k)) fd fr (G (sg k)).2.2.2.2.1 nf ≤ 0 by rw [t1]; exact nI_nle (by omega) (by omega))]
    exact ⟨rfl, rfl, t4, pr_L_up hL hne⟩
theorem pr_piece {sg : Nat → Nat} {nb lw fr nf z tm : Nat} {aw a b d3 wl : Int32} {G : Nat → px_G} {B : Nat → Nat → Int32} {sc gl nu si wh pl fd me : Nat → Int32} {sm ms mg mn mk : Int32} {md : Nat → Int32} {x : Option Nat} (h : pr_W sg nb lw G B sc gl nu si wh pl) (hL : pr_L lw aw G B sm ms mg mn mk md) (hF : pr_F fd nf me) (h1 : px_fnd sg G nb a b d3 x) (h2 : pm_fnd sc gl nu nb a b d3 x) (hwl : wl = nI z) (hz1 : 1 ≤ z) (hz2 : z ≤ 1480) (hfit : fr + nf ≤ z) :
    (px_pc fd nf fr a b d3 wl sg nb lw aw tm G B x).1 = (pm_pc me nf fr z a b d3 wl tm nb sc gl nu si wh pl sm ms mg mn mk md x).1 ∧ pr_P (px_pc fd nf fr a b d3 wl sg nb lw aw tm G B x).2 (pm_pc me nf fr z a b d3 wl tm nb sc gl nu si wh pl sm ms mg mn mk md x).2 := by
  cases x with
  | some k =>
    have hk : k < nb := h1.1
    obtain ⟨z', e1, e2, -⟩ := h.2.2.1 k hk
    have hs : (G (sg k)).2.2.2.1 = wh k := by rw [e1]
    show (px_tk fd nf fr wl k sg nb lw aw G B).1 = (if wh k = wl then _ else _ : Int32 × pm_R).1 ∧ pr_P (px_tk fd nf fr wl k sg nb lw aw G B).2 (if wh k = wl then _ else _ : Int32 × pm_R).2
    by_cases e : wh k = wl
    · rw [if_pos e]
      exact pr_tk h hL hF hk hwl (e.trans hwl) hz2 hfit
    · rw [if_neg e]
      unfold px_tk
      rw [if_neg (fun q => e (hs.symm.trans q))]
      exact ⟨rfl, rfl, h, hL⟩
  | none =>
    obtain ⟨r1, r2⟩ := pr_room h
    have hno := pr_no h.1 h2
    have hn3 : pm_mkn nb ≤ 3 := pm_mkn_le h.1
    have hlt : (px_mk sg nb).2 < 4 := px_mk_le h.1
    have hne : ¬ (px_mk sg nb).1 (px_mk sg nb).2 = lw := r1.2.1.2.2.2 _ hlt
    have n1 := pr_new (t := nI tm) r1 (by omega) (by rw [r2]; exact hno) hwl hz1 hz2
    have hL1 := pr_L_up (g := (a, b, d3, wl, wl, nI tm)) (b := px_fl (B ((px_mk sg nb).1 (px_mk sg nb).2)) (-1) 1480) hL hne
    have hh := pr_tk (wl := wl) (z := z) n1 hL1 hF (Nat.lt_succ_self _) hwl (by rw [pk_us]; exact hwl) hz2 hfit
    rw [r2] at hh
    show (px_tk fd nf fr wl (px_mk sg nb).2 (px_mk sg nb).1 ((px_mk sg nb).2 + 1) lw aw _ _).1 = (pm_tk me nf fr (pm_mkn nb) z (pm_mkn nb + 1) _ _ _ _ _ _ sm ms mg mn mk md).1 ∧ pr_P (px_tk fd nf fr wl (px_mk sg nb).2 (px_mk sg nb).1 ((px_mk sg nb).2 + 1) lw aw _ _).2 (pm_tk me nf fr (pm_mkn nb) z (pm_mkn nb + 1) _ _ _ _ _ _ sm ms mg mn mk md).2
    rw [r2]
    exact hh
theorem pr_gv {tm lw : Nat} {G : Nat → px_G} {B : Nat → Nat → Int32} : ∀ (n m nb : Nat) (sg : Nat → Nat) (sc gl nu si wh pl : Nat → Int32), pr_W sg nb lw G B sc gl nu si wh pl → nb ≤ n → nb ≤ m →
    (px_gv tm G n sg nb).2 = (pm_gv tm m nb sc gl nu si wh pl).1 ∧ pr_W (px_gv tm G n sg nb).1 (px_gv tm G n sg nb).2 lw G B (pm_gv tm m nb sc gl nu si wh pl).2.1 (pm_gv tm m nb sc gl nu si wh pl).2.2.1 (pm_gv tm m nb sc gl nu si wh pl).2.2.2.1 (pm_gv tm m nb sc gl nu si wh pl).2.2.2.2.1 (pm_gv tm m nb sc gl nu si wh pl).2.2.2.2.2.1 (pm_gv tm m nb sc gl nu si wh pl).2.2.2.2.2.2 := by
  intro n
  induction n with
  | zero =>
    intro m nb sg sc gl nu si wh pl h hn hm
    have e : nb = 0 := by omega
    subst e
    cases m with
    | zero => exact ⟨rfl, h⟩
    | succ m =>
      have e2 : pm_gv tm (m + 1) 0 sc gl nu si wh pl = (0, sc, gl, nu, si, wh, pl) := if_neg (fun q => absurd q.1 (by omega))
      rw [e2]
      exact ⟨rfl, h⟩
  | succ n ih =>
    intro m nb sg sc gl nu si wh pl h hn hm
    cases m with
    | zero =>
      have e : nb = 0 := by omega
      subst e
      have e2 : px_gv tm G (n + 1) sg 0 = (sg, 0) := if_neg (fun q => absurd q.1 (by omega))
      rw [e2]
      exact ⟨rfl, h⟩
    | succ m =>
      by_cases hc : 0 < nb ∧ ¬ nI tm - si 0 < 300
      · obtain ⟨z', e1, -⟩ := h.2.2.1 0 hc.1
        have hs : (G (sg 0)).2.2.2.2.2 = si 0 := by rw [e1]
        have e2 : px_gv tm G (n + 1) sg nb = px_gv tm G n (px_rot sg 0 nb) (nb - 1) := if_pos (by rw [hs]; exact hc)
        have e3 : pm_gv tm (m + 1) nb sc gl nu si wh pl = pm_gv tm m (nb - 1) (pm_s1 sc 0 (nb - 1)) (pm_s1 gl 0 (nb - 1)) (pm_s1 nu 0 (nb - 1)) (pm_s1 si 0 (nb - 1)) (pm_s1 wh 0 (nb - 1)) (pm_s2 pl 0 (1480 * (nb - 1))) := if_pos hc
        rw [e2, e3]
        exact ih m (nb - 1) _ _ _ _ _ _ _ (pr_rot h hc.1) (by omega) (by omega)
      · have e2 : px_gv tm G (n + 1) sg nb = (sg, nb) := if_neg (fun q => hc ⟨q.1, by
          obtain ⟨z', e1, -⟩ := h.2.2.1 0 q.1
          have hs : (G (sg 0)).2.2.2.2.2 = si 0 := by rw [e1]
          rw [← hs]; exact q.2⟩)
        have e3 : pm_gv tm (m + 1) nb sc gl nu si wh pl = (nb, sc, gl, nu, si, wh, pl) := if_neg hc
        rw [e2, e3]
        exact ⟨rfl, h⟩
/-! bytes of a long -/
theorem pb_s1 : ∀ t, t < 8 → (((8 * nI t).toInt64.toUInt64 &&& Int64.toUInt64 63).toBitVec % 64).toNat = 8 * t := by decide +kernel
theorem pb_s2 : ∀ t, t < 8 → (((8 * nI t).toInt64 &&& 63).toBitVec.smod 64).toNat = 8 * t := by decide +kernel
theorem pb_32 : ∀ i, i < 32 → (255 : Int32).toBitVec.getLsbD i = decide (i < 8) := by decide +kernel
theorem pb_64 : ∀ i, i < 32 → (255 : Int64).toBitVec.getLsbD i = decide (i < 8) := by decide +kernel
theorem pb_eq (x : Int64) {t : Nat} (ht : t < 8) : px_by x (8 * nI t) = pm_by x (8 * nI t) := by
  apply Int32.toBitVec_inj.mp
  apply BitVec.eq_of_getLsbD_eq
  intro i hi
  have e1 : (px_by x (8 * nI t)).toBitVec.getLsbD i = (x.toBitVec.getLsbD (8 * t + i) && decide (i < 8)) := by
    unfold px_by
    rw [Int32.toBitVec_and, BitVec.getLsbD_and, pb_32 i hi, Int64.toBitVec_toInt32, BitVec.getLsbD_signExtend]
    have e : (x.toUInt64 >>> ((8 * nI t).toInt64.toUInt64 &&& Int64.toUInt64 63)).toInt64.toBitVec = x.toBitVec >>> (8 * t) := by
      show (x.toUInt64 >>> ((8 * nI t).toInt64.toUInt64 &&& Int64.toUInt64 63)).toBitVec = _
      rw [UInt64.toBitVec_shiftRight]
      show x.toBitVec >>> (((8 * nI t).toInt64.toUInt64 &&& Int64.toUInt64 63).toBitVec % 64).toNat = _
      rw [pb_s1 t ht]
    rw [e, BitVec.getLsbD_ushiftRight]
    simp [hi, show i < 64 by omega]
  have e2 : (pm_by x (8 * nI t)).toBitVec.getLsbD i = (x.toBitVec.getLsbD (8 * t + i) && decide (i < 8)) := by
    unfold pm_by
    rw [Int64.toBitVec_toInt32, BitVec.getLsbD_signExtend, Int64.toBitVec_and, BitVec.getLsbD_and, pb_64 i hi, Int64.toBitVec_shiftRight]
    have e : (x.toBitVec.sshiftRight (((8 * nI t).toInt64 &&& 63).toBitVec.smod 64).toNat).getLsbD i = if 8 * t + i < 64 then x.toBitVec.getLsbD (8 * t + i) else x.toBitVec.msb := by
      rw [pb_s2 t ht, BitVec.getLsbD_sshiftRight]
      simp [show i < 64 by omega]
    have e : (x.toBitVec.sshiftRight' (((8 * nI t).toInt64 &&& 63).toBitVec.smod 64)).getLsbD i = if 8 * t + i < 64 then x.toBitVec.getLsbD (8 * t + i) else x.toBitVec.msb := e
    rw [e]
    by_cases h8 : i < 8
    · simp [hi, h8, show i < 64 by omega, show 8 * t + i < 64 by omega]
    · simp [hi, h8, show i < 64 by omega]
  rw [e1, e2]
theorem pb_nn (x : Int64) (d : Int32) : ¬ px_by x d < 0 := by
  unfold px_by
  rw [pk_and _ 8 (by decide)]
  exact nI_pos (by omega)
theorem px_fd_at (fd : Nat → Int32) (nf : Nat) (x : Int64) (n : Int32) : ∀ (k i : Nat), px_fd fd nf x n k i = if nf ≤ i ∧ i < nf + k then px_by x (8 * (n - 1 - nI (i - nf))) else fd i
  | 0, i => by
    rw [if_neg (by omega)]
    rfl
  | k + 1, i => by
    have e0 : px_fd fd nf x n (k + 1) = upd (px_fd fd nf x n k) (nf + k) (px_by x (8 * (n - 1 - nI k))) := rfl
    rw [e0]
    by_cases hi : i = nf + k
    · subst hi
      rw [pk_us, if_pos (by omega), Nat.add_sub_cancel_left]
    · rw [pk_un hi, px_fd_at fd nf x n k]
      by_cases h2 : nf ≤ i ∧ i < nf + k
      · rw [if_pos h2, if_pos (by omega)]
      · rw [if_neg h2, if_neg (by omega)]
theorem pm_fd_at (fd : Nat → Int32) (nf : Nat) (x : Int64) (n : Nat) : ∀ (k i : Nat), pm_fd fd nf x n k i = if nf ≤ i ∧ i < nf + k then pm_by x (8 * nI (n - 1 - (i - nf))) else fd i
  | 0, i => by
    rw [if_neg (by omega)]
    rfl
  | k + 1, i => by
    have e0 : pm_fd fd nf x n (k + 1) = upd (pm_fd fd nf x n k) (nf + k) (pm_by x (8 * nI (n - 1 - k))) := rfl
    rw [e0]
    by_cases hi : i = nf + k
    · subst hi
      rw [pk_us, if_pos (by omega), Nat.add_sub_cancel_left]
    · rw [pk_un hi, pm_fd_at fd nf x n k]
      by_cases h2 : nf ≤ i ∧ i < nf + k
      · rw [if_pos h2, if_pos (by omega)]
      · rw [if_neg h2, if_neg (by omega)]
theorem pr_feed {fd me : Nat → Int32} {nf n : Nat} (x : Int64) (h : pr_F fd nf me) (hn1 : 1 ≤ n) (hn8 : n ≤ 8) (hfit : nf + n ≤ 1480) : pr_F (px_fd fd nf x (nI n) n) (nf + n) (pm_fd me nf x n n) := by
  refine ⟨hfit, fun i hi => ?_⟩
  rw [px_fd_at, pm_fd_at]
  by_cases hc : nf ≤ i ∧ i < nf + n
  · rw [if_pos hc, if_pos hc]
    have e : nI n - 1 - nI (i - nf) = nI (n - 1 - (i - nf)) := by rw [px_pred (by omega), pk_sub (by omega)]
    rw [e]
    exact ⟨pb_eq x (by omega), pb_nn x _⟩
  · rw [if_neg hc, if_neg hc]
    exact h.2 i (by omega)
end
section
/-! the law's own state: class, reference and the array for an answer -/
def pl_St (D : va_G) (s : State) (a0 af ab : Nat) (o ar : Nat → Nat) (cI cO : ClassId) (m0 : Nat) (ad : Nat → Nat) (qo : Nat) (cL : ClassId) (H : Heap) (locs : List Loc) : Prop :=
  ∃ (fd : Nat → Int32) (nf : Nat) (sg : Nat → Nat) (nb lw : Nat) (aw : Int32) (tm : Nat) (G : Nat → px_G) (B : Nat → Nat → Int32) (cd : Int32) (me sc gl nu si wh pl : Nat → Int32) (sm ms mg mn mk : Int32) (md : Nat → Int32) (f : Nat → Int64),
    tm ≤ 1000000000 ∧ pr_F fd nf me ∧ pr_W sg nb lw G B sc gl nu si wh pl ∧ pr_L lw aw G B sm ms mg mn mk md ∧
    pw_S D (px_T cI cO ++ [(cL, .long)]) (fun q => s.heap.size ≤ q) (pm_W m0 ad cI cd tm nf me nb sc gl nu si wh pl sm ms mg mn mk md ++ (px_W a0 af ab o ar cI cO fd nf sg nb lw aw tm G B ++ [(qo, .inl (cL, 1, .inr (.inl f)))])) s H locs
theorem pl_cmp (x : Int64) : lg_cmp x x = 0 := by
  have h : ¬ x < x := by rw [Int64.lt_iff_toInt_lt]; omega
  simp [lg_cmp, h]
section PL
variable {p : Program} {l : Launch} {e : Env} {R : Room} {s : State} {m : MethodId} {args : Array Value} {below : List Frame} {meth : Method} {c : Code} {H : Heap} {locs : List Loc} {cells slots : Nat} {Q : State → Prop} {pc : Nat} {ls : Array Slot} {rest : List Value} {cc : ByteArray} {nL : Nat} {own : String} {D : va_G} {tys : List (ClassId × FieldType)} {A : Nat → Prop} {ws ws' : va_W}
theorem pw_sld (S : pw_Fx p m c cc nL s args own) (w : pw_S D tys (fun q => s.heap.size ≤ q) ws s H locs) {b L : Nat} {xs : Nat → Int32} (hX : va_X b L xs s s.heap) (hbl : b < s.heap.size) {j : Nat} (hj : j < L) (hL : L ≤ 3072) (hdg : decode cc pc = .ok (.iaload, 1))
    (kk : W p l e R s m args below meth c H locs cells slots Q (F0 m (pc + 1) ls (.int (xs j) :: rest))) : W p l e R s m args below meth c H locs cells slots Q (F0 m pc ls (.int (nI j) :: .ref b :: rest)) := by
  refine va_sld S.1 S.2.1 hX hbl (Nat.not_le.mpr hbl) w.2.2.2.1 (vp_in_nI hj (by omega)) hdg ?_
  rw [nI_clamp (by omega)]
  exact kk
theorem pw_perm (h : ws.Perm ws') (w : pw_S D tys A ws s H locs) : pw_S D tys A ws' s H locs := by
  refine ⟨w.1, pw_P.mpr (fun q hq => pw_P.mp w.2.1 q (h.mem_iff.mpr hq)), pw_D.mpr ⟨?_, fun q hq => (pw_D.mp w.2.2.1).2 q (h.mem_iff.mpr hq)⟩, w.2.2.2⟩
  exact (h.map Prod.fst).nodup_iff.mp (pw_D.mp w.2.2.1).1
end PL
end
section
set_option maxHeartbeats 4000000 in
set_option maxRecDepth 100000 in
/-- the law's case: feed -/
theorem pl_k_feed {p : Program} {l : Launch} {e : Env} {s : State} {m : MethodId} {below : List Frame} {meth : Method} {c : Code} {b L : Nat} {xs : Nat → Int32} {D : va_G} {a0 af ab : Nat} {o ar : Nat → Nat} {cI cO : ClassId} {m0 : Nat} {ad : Nat → Nat} {qo : Nat} {cL : ClassId} {H : Heap} {locs : List Loc} {ls : Array Slot} {cells slots i : Nat} {Q : State → Prop}
    (hl9 : l.stackTraces = false) (S : pw_Fx p m c cL_law 7 s #[Value.ref b] RL) (hX : va_X b L xs s s.heap) (hbl : b < s.heap.size) (hL : L ≤ 3072) (hi : i + 6 ≤ L) (hc : cells + 1 ≤ 601024) (hs : slots + 6 ≤ 7293034) (st : pl_St D s a0 af ab o ar cI cO m0 ad qo cL H locs) (hl : lv_has ls 7 [(0, .ref b), (1, .ref a0), (2, .ref m0), (3, .ref qo), (4, .int (nI i))])
    (kk : ∀ (H1 : Heap) (locs1 : List Loc) (ls1 : Array Slot), pl_St D s a0 af ab o ar cI cO m0 ad qo cL H1 locs1 → lv_has ls1 7 [(0, .ref b), (1, .ref a0), (2, .ref m0), (3, .ref qo), (4, .int (nI i))] → W p l e room_1 s m #[Value.ref b] below meth c H1 locs1 (cells + 1) (slots + 6) Q (F0 m 583 ls1 [])) :
    W p l e room_1 s m #[Value.ref b] below meth c H locs cells slots Q (F0 m 88 ls []) := by
  obtain ⟨fd, nf, sg, nb, lw, aw, tm, G, B, cd, me, sc, gl, nu, si, wh, pl, sm, ms, mg, mn, mk, md, f, htm, hF, hW, hLs, w⟩ := st
  obtain ⟨hx, hb, hml, hown, hts⟩ := id S
  refine lv_aload_n hx hb dL_law_88 rfl (lv_at hl 1 rfl) ?_
  refine lv_aload_n hx hb dL_law_89 rfl (lv_at hl 0 rfl) ?_
  refine lv_iload hx hb dL_law_90 (lv_at hl 4 rfl) ?_
  refine lv_iconst (v := 1) hx hb dL_law_92 (by decide) ?_
  refine lv_iadd hx hb dL_law_93 ?_
  refine pw_top (y := nI (i + 1)) (nI_add i 1) ?_
  refine pw_sld S w hX hbl (j := (i + 1)) (by omega) hL dL_law_94 ?_
  refine lv_i2l hx hb dL_law_95 rfl ?_
  refine lv_bipush (v := 32) hx hb dL_law_96 (by decide) ?_
  refine lv_lshl hx hb dL_law_98 rfl ?_
  refine lv_aload_n hx hb dL_law_99 rfl (lv_at hl 0 rfl) ?_
  refine lv_iload hx hb dL_law_100 (lv_at hl 4 rfl) ?_
  refine lv_iconst (v := 2) hx hb dL_law_102 (by decide) ?_
  refine lv_iadd hx hb dL_law_103 ?_
  refine pw_top (y := nI (i + 2)) (nI_add i 2) ?_
  refine pw_sld S w hX hbl (j := (i + 2)) (by omega) hL dL_law_104 ?_
  refine lv_i2l hx hb dL_law_105 rfl ?_
  refine lv_ldc2 (v := 4294967295) hx hb hown (hts _ cL_37) dL_law_106 ?_
  refine lv_land hx hb dL_law_109 ?_
  refine lv_lor hx hb dL_law_110 ?_
  refine lv_aload_n hx hb dL_law_111 rfl (lv_at hl 0 rfl) ?_
  refine lv_iload hx hb dL_law_112 (lv_at hl 4 rfl) ?_
  refine lv_iconst (v := 3) hx hb dL_law_114 (by decide) ?_
  refine lv_iadd hx hb dL_law_115 ?_
  refine pw_top (y := nI (i + 3)) (nI_add i 3) ?_
  refine pw_sld S w hX hbl (j := (i + 3)) (by omega) hL dL_law_116 ?_
  refine lv_aload_n hx hb dL_law_117 rfl (lv_at hl 3 rfl) ?_
  have w1 : pw_S D (px_T cI cO ++ [(cL, .long)]) (fun q => s.heap.size ≤ q) (pm_W m0 ad cI cd tm nf me nb sc gl nu si wh pl sm ms mg mn mk md ++ ((px_W a0 af ab o ar cI cO fd nf sg nb lw aw tm G B ++ [(qo, .inl (cL, 1, .inr (.inl f)))]) ++ [])) s _ _ := w.to (by rw [List.append_nil])
  refine pw_goi w1 (vx_runSW (As := [.ref a0, .long (((xs (i + 1)).toInt64 <<< ((32 : Int32).toInt64 &&& 63)) ||| ((xs (i + 2)).toInt64 &&& 4294967295)), .int (xs (i + 3)), .ref qo]) (rest := []) S (pl_c_feed l D a0 af ab o ar cI cO fd nf sg nb lw aw tm G B _ qo cL f hl9 hF.1 (((xs (i + 1)).toInt64 <<< ((32 : Int32).toInt64 &&& 63)) ||| ((xs (i + 2)).toInt64 &&& 4294967295)) (xs (i + 3))) (pw_cW (n := 4) S eL_39 tL_feed iniL kL_feed rfl rfl (by decide +kernel) ⟨by decide, by decide⟩) ⟨pw_blind, pw_pre w1 w1.1⟩ rfl rfl hl.1 rfl (lv_room (Nat.le_of_ble_eq_true rfl)) dL_law_118 ⟨hc, hs⟩) (fun k u H locs hp w => ?_)
  clear w1
  obtain ⟨x9, f1⟩ := u
  cases x9 with
  | none =>
    have w : pw_S D (px_T cI cO ++ [(cL, .long)]) (fun q => s.heap.size ≤ q) (pm_W m0 ad cI cd tm nf me nb sc gl nu si wh pl sm ms mg mn mk md ++ ((px_W a0 af ab o ar cI cO fd nf sg nb lw aw tm G B ++ [(qo, .inl (cL, 1, .inr (.inl f1)))]) ++ [])) s _ _ := w
    have w : pw_S D (px_T cI cO ++ [(cL, .long)]) (fun q => s.heap.size ≤ q) (pm_W m0 ad cI cd tm nf me nb sc gl nu si wh pl sm ms mg mn mk md ++ (px_W a0 af ab o ar cI cO fd nf sg nb lw aw tm G B ++ [(qo, .inl (cL, 1, .inr (.inl f1)))])) s _ _ := w.to (by rw [List.append_nil])
    have hp : (k = 1 ∧ ¬ (1 ≤ (xs (i + 3)).toInt ∧ (xs (i + 3)).toInt ≤ 8)) ∨ (k = 2 ∧ (1 ≤ (xs (i + 3)).toInt ∧ (xs (i + 3)).toInt ≤ 8) ∧ 1480 < (nf : Int) + (xs (i + 3)).toInt) := hp
    have hk0 : ¬ k = 0 := by rcases hp with ⟨rfl, -⟩ | ⟨rfl, -⟩ <;> decide
    refine lv_istore (lv' := [(5, .int k), (0, .ref b), (1, .ref a0), (2, .ref m0), (3, .ref qo), (4, .int (nI i))]) hx hb dL_law_121 hl (by decide) rfl (fun ls hl => ?_)
    refine lv_aload_n hx hb dL_law_123 rfl (lv_at hl 3 rfl) ?_
    refine lv_aload_n hx hb dL_law_124 rfl (lv_at hl 1 rfl) ?_
    refine lv_iload hx hb dL_law_125 (lv_at hl 5 rfl) ?_
    refine lv_iconst (v := 1) hx hb dL_law_127 (by decide) ?_
    refine lv_iadd hx hb dL_law_128 ?_
    refine pw_top (y := nI (i + 1)) (nI_add i 1) ?_
    refine pw_sld S w hX hbl (j := (i + 1)) (by omega) hL dL_law_129 ?_
    refine lv_i2l hx hb dL_law_130 rfl ?_
    refine lv_bipush (v := 32) hx hb dL_law_131 (by decide) ?_
    refine lv_lshl hx hb dL_law_133 rfl ?_
    refine lv_aload_n hx hb dL_law_134 rfl (lv_at hl 1 rfl) ?_
    refine lv_iload hx hb dL_law_135 (lv_at hl 5 rfl) ?_
    refine lv_iconst (v := 2) hx hb dL_law_137 (by decide) ?_
    refine lv_iadd hx hb dL_law_138 ?_
    refine pw_top (y := nI (i + 2)) (nI_add i 2) ?_
    refine pw_sld S w hX hbl (j := (i + 2)) (by omega) hL dL_law_139 ?_
    refine lv_i2l hx hb dL_law_140 rfl ?_
    refine lv_ldc2 (v := 4294967295) hx hb hown (hts _ cL_37) dL_law_141 ?_
    refine lv_land hx hb dL_law_144 ?_
    refine lv_lor hx hb dL_law_145 ?_
    refine lv_aload_n hx hb dL_law_146 rfl (lv_at hl 1 rfl) ?_
    refine lv_iload hx hb dL_law_147 (lv_at hl 5 rfl) ?_
    refine lv_iconst (v := 3) hx hb dL_law_149 (by decide) ?_
    refine lv_iadd hx hb dL_law_150 ?_
    refine pw_top (y := nI (i + 3)) (nI_add i 3) ?_
    refine pw_sld S w hX hbl (j := (i + 3)) (by omega) hL dL_law_151 ?_
    have w : pw_S D (px_T cI cO ++ [(cL, .long)]) (fun q => s.heap.size ≤ q) ([] ++ (pm_W m0 ad cI cd tm nf me nb sc gl nu si wh pl sm ms mg mn mk md ++ (px_W a0 af ab o ar cI cO fd nf sg nb lw aw tm G B ++ [(qo, .inl (cL, 1, .inr (.inl f1)))]))) s _ _ := w
    refine pw_goi0 w (va_runV (C := RM) (As := [.long (((xs (i + 1)).toInt64 <<< ((32 : Int32).toInt64 &&& 63)) ||| ((xs (i + 2)).toInt64 &&& 4294967295)), .int (xs (i + 3))]) (rest := []) S (pm_c_feed l D m0 ad cI cd tm nf me nb sc gl nu si wh pl sm ms mg mn mk md _ hF.1 (((xs (i + 1)).toInt64 <<< ((32 : Int32).toInt64 &&& 63)) ||| ((xs (i + 2)).toInt64 &&& 4294967295)) (xs (i + 3))) (pw_cw (n := 2) S eL_44 iM_feed sM_feed iniM kM_feed rfl rfl (by decide +kernel) ⟨by decide, by decide⟩) ⟨pw_blind, va_recv w.1 w.2.1 (ci := cM) (q0 := 0) rfl rfl, pw_pre w (w.1.sub [0] rfl)⟩ rfl rfl hl.1 rfl (lv_room (Nat.le_of_ble_eq_true rfl)) dL_law_152 ⟨hc, hs⟩) (fun r2 u2 H locs hp2 w => ?_)
    have key : u2 = (k, nf, me) := by
      rcases hp with ⟨rfl, h1⟩ | ⟨rfl, h1, h2⟩ <;> rcases hp2 with ⟨h3, h4⟩ | ⟨h3, h4, h5⟩ | ⟨n9, g1, g2, g3, g4, g5, g6⟩
      · exact h3
      · exact absurd h4 h1
      · exact absurd (by rw [g3, nI_toInt (by omega)]; omega) h1
      · exact absurd h1 h4
      · exact h3
      · exact absurd h2 (by rw [g3, nI_toInt (by omega)]; omega)
    subst key
    refine lv_istore (lv' := [(6, .int r2), (5, .int k), (0, .ref b), (1, .ref a0), (2, .ref m0), (3, .ref qo), (4, .int (nI i))]) hx hb dL_law_155 hl (by decide) rfl (fun ls hl => ?_)
    refine lv_aload_n hx hb dL_law_157 rfl (lv_at hl 4 rfl) ?_
    have w : pw_S D (px_T cI cO ++ [(cL, .long)]) (fun q => s.heap.size ≤ q) ([] ++ (pm_W m0 ad cI k tm nf me nb sc gl nu si wh pl sm ms mg mn mk md ++ (px_W a0 af ab o ar cI cO fd nf sg nb lw aw tm G B ++ [(qo, .inl (cL, 1, .inr (.inl f1)))]))) s _ _ := w
    refine pw_goi0 w (va_runV (C := RM) (As := []) (rest := []) S (pm_c_thrown l D m0 ad cI k tm nf me nb sc gl nu si wh pl sm ms mg mn mk md _ ) (pw_cw (n := 0) S eL_45 iM_thrown sM_thrown iniM kM_thrown rfl rfl (by decide +kernel) ⟨by decide, by decide⟩) ⟨pw_blind, va_recv w.1 w.2.1 (ci := cM) (q0 := 0) rfl rfl, pw_pre w (w.1.sub [0] rfl)⟩ rfl rfl hl.1 rfl (lv_room (Nat.le_of_ble_eq_true rfl)) dL_law_158 ⟨hc, hs⟩) (fun r3 _ H locs hp3 w => ?_)
    have w : pw_S D (px_T cI cO ++ [(cL, .long)]) (fun q => s.heap.size ≤ q) ((pm_W m0 ad cI k tm nf me nb sc gl nu si wh pl sm ms mg mn mk md ++ (px_W a0 af ab o ar cI cO fd nf sg nb lw aw tm G B ++ [(qo, .inl (cL, 1, .inr (.inl f1)))]))) s _ _ := w
    refine lv_iload hx hb dL_law_161 (lv_at hl 1 rfl) ?_
    refine lv_icmp_eq (tgt := 168) hx hb dL_law_163 (by decide) (fun _ => ?_) (fun h9 => absurd hp3 h9)
    refine lv_iload hx hb dL_law_168 (lv_at hl 1 rfl) ?_
    refine lv_if_ne (tgt := 185) hx hb dL_law_170 (by decide) (fun _ => ?_) (fun h9 => absurd h9 hk0)
    refine lv_goto (tgt := 583) hx hb dL_law_185 (by decide) ?_
    exact kk _ _ _ ⟨fd, nf, sg, nb, lw, aw, tm, G, B, k, me, sc, gl, nu, si, wh, pl, sm, ms, mg, mn, mk, md, f1, htm, hF, hW, hLs, w⟩ (lv_sub hl [2, 3, 4, 5, 6] rfl)
  | some u1 =>
    obtain ⟨n1, fd1⟩ := u1
    obtain ⟨rfl, r, ⟨q1, q2, q3, q4, q5, q6⟩, hf1⟩ := hp
    have w : pw_S D (px_T cI cO ++ [(cL, .long)]) (fun q => s.heap.size ≤ q) (pm_W m0 ad cI cd tm nf me nb sc gl nu si wh pl sm ms mg mn mk md ++ ((px_W a0 af ab o ar cI cO fd1 (nf + n1) sg nb lw aw tm G B ++ [(qo, .inl (cL, 1, .inr (.inl f1)))]) ++ [])) s _ _ := w
    have w : pw_S D (px_T cI cO ++ [(cL, .long)]) (fun q => s.heap.size ≤ q) (pm_W m0 ad cI cd tm nf me nb sc gl nu si wh pl sm ms mg mn mk md ++ (px_W a0 af ab o ar cI cO fd1 (nf + n1) sg nb lw aw tm G B ++ [(qo, .inl (cL, 1, .inr (.inl f1)))])) s _ _ := w.to (by rw [List.append_nil])
    dsimp only at q1 q2 q3 q4 q5 q6 hf1
    refine lv_istore (lv' := [(5, .int 0), (0, .ref b), (1, .ref a0), (2, .ref m0), (3, .ref qo), (4, .int (nI i))]) hx hb dL_law_121 hl (by decide) rfl (fun ls hl => ?_)
    refine lv_aload_n hx hb dL_law_123 rfl (lv_at hl 3 rfl) ?_
    refine lv_aload_n hx hb dL_law_124 rfl (lv_at hl 1 rfl) ?_
    refine lv_iload hx hb dL_law_125 (lv_at hl 5 rfl) ?_
    refine lv_iconst (v := 1) hx hb dL_law_127 (by decide) ?_
    refine lv_iadd hx hb dL_law_128 ?_
    refine pw_top (y := nI (i + 1)) (nI_add i 1) ?_
    refine pw_sld S w hX hbl (j := (i + 1)) (by omega) hL dL_law_129 ?_
    refine lv_i2l hx hb dL_law_130 rfl ?_
    refine lv_bipush (v := 32) hx hb dL_law_131 (by decide) ?_
    refine lv_lshl hx hb dL_law_133 rfl ?_
    refine lv_aload_n hx hb dL_law_134 rfl (lv_at hl 1 rfl) ?_
    refine lv_iload hx hb dL_law_135 (lv_at hl 5 rfl) ?_
    refine lv_iconst (v := 2) hx hb dL_law_137 (by decide) ?_
    refine lv_iadd hx hb dL_law_138 ?_
    refine pw_top (y := nI (i + 2)) (nI_add i 2) ?_
    refine pw_sld S w hX hbl (j := (i + 2)) (by omega) hL dL_law_139 ?_
    refine lv_i2l hx hb dL_law_140 rfl ?_
    refine lv_ldc2 (v := 4294967295) hx hb hown (hts _ cL_37) dL_law_141 ?_
    refine lv_land hx hb dL_law_144 ?_
    refine lv_lor hx hb dL_law_145 ?_
    refine lv_aload_n hx hb dL_law_146 rfl (lv_at hl 1 rfl) ?_
    refine lv_iload hx hb dL_law_147 (lv_at hl 5 rfl) ?_
    refine lv_iconst (v := 3) hx hb dL_law_149 (by decide) ?_
    refine lv_iadd hx hb dL_law_150 ?_
    refine pw_top (y := nI (i + 3)) (nI_add i 3) ?_
    refine pw_sld S w hX hbl (j := (i + 3)) (by omega) hL dL_law_151 ?_
    have w : pw_S D (px_T cI cO ++ [(cL, .long)]) (fun q => s.heap.size ≤ q) ([] ++ (pm_W m0 ad cI cd tm nf me nb sc gl nu si wh pl sm ms mg mn mk md ++ (px_W a0 af ab o ar cI cO fd1 (nf + n1) sg nb lw aw tm G B ++ [(qo, .inl (cL, 1, .inr (.inl f1)))]))) s _ _ := w
    refine pw_goi0 w (va_runV (C := RM) (As := [.long (((xs (i + 1)).toInt64 <<< ((32 : Int32).toInt64 &&& 63)) ||| ((xs (i + 2)).toInt64 &&& 4294967295)), .int (xs (i + 3))]) (rest := []) S (pm_c_feed l D m0 ad cI cd tm nf me nb sc gl nu si wh pl sm ms mg mn mk md _ hF.1 (((xs (i + 1)).toInt64 <<< ((32 : Int32).toInt64 &&& 63)) ||| ((xs (i + 2)).toInt64 &&& 4294967295)) (xs (i + 3))) (pw_cw (n := 2) S eL_44 iM_feed sM_feed iniM kM_feed rfl rfl (by decide +kernel) ⟨by decide, by decide⟩) ⟨pw_blind, va_recv w.1 w.2.1 (ci := cM) (q0 := 0) rfl rfl, pw_pre w (w.1.sub [0] rfl)⟩ rfl rfl hl.1 rfl (lv_room (Nat.le_of_ble_eq_true rfl)) dL_law_152 ⟨hc, hs⟩) (fun r2 u2 H locs hp2 w => ?_)
    have hni : (xs (i + 3)).toInt = n1 := by rw [q3, nI_toInt (by omega)]
    have key : u2 = (0, nf + n1, pm_fd me nf (((xs (i + 1)).toInt64 <<< ((32 : Int32).toInt64 &&& 63)) ||| ((xs (i + 2)).toInt64 &&& 4294967295)) n1 n1) ∧ r2 = nI (nf + n1) := by
      rcases hp2 with ⟨h3, h4⟩ | ⟨h3, h4, h5⟩ | ⟨n9, g1, g2, g3, g4, g5, g6⟩
      · exact absurd (by rw [hni]; omega) h4
      · rw [hni] at h5; omega
      · have e9 : n9 = n1 := (nI_eq (by omega) (by omega)).mp (g3.symm.trans q3)
        subst e9
        exact ⟨g5, g6⟩
    obtain ⟨rfl, hr2⟩ := key
    have hans : f1 0 = r2.toInt64 := by rw [hf1, q6, hr2]
    have hF2 : pr_F fd1 (nf + n1) (pm_fd me nf (((xs (i + 1)).toInt64 <<< ((32 : Int32).toInt64 &&& 63)) ||| ((xs (i + 2)).toInt64 &&& 4294967295)) n1 n1) := by rw [q5, q3]; exact pr_feed _ hF q1 q2 q4
    refine lv_istore (lv' := [(6, .int r2), (5, .int 0), (0, .ref b), (1, .ref a0), (2, .ref m0), (3, .ref qo), (4, .int (nI i))]) hx hb dL_law_155 hl (by decide) rfl (fun ls hl => ?_)
    refine lv_aload_n hx hb dL_law_157 rfl (lv_at hl 4 rfl) ?_
    have w : pw_S D (px_T cI cO ++ [(cL, .long)]) (fun q => s.heap.size ≤ q) ([] ++ (pm_W m0 ad cI 0 tm (nf + n1) (pm_fd me nf (((xs (i + 1)).toInt64 <<< ((32 : Int32).toInt64 &&& 63)) ||| ((xs (i + 2)).toInt64 &&& 4294967295)) n1 n1) nb sc gl nu si wh pl sm ms mg mn mk md ++ (px_W a0 af ab o ar cI cO fd1 (nf + n1) sg nb lw aw tm G B ++ [(qo, .inl (cL, 1, .inr (.inl f1)))]))) s _ _ := w
    refine pw_goi0 w (va_runV (C := RM) (As := []) (rest := []) S (pm_c_thrown l D m0 ad cI 0 tm (nf + n1) (pm_fd me nf (((xs (i + 1)).toInt64 <<< ((32 : Int32).toInt64 &&& 63)) ||| ((xs (i + 2)).toInt64 &&& 4294967295)) n1 n1) nb sc gl nu si wh pl sm ms mg mn mk md _ ) (pw_cw (n := 0) S eL_45 iM_thrown sM_thrown iniM kM_thrown rfl rfl (by decide +kernel) ⟨by decide, by decide⟩) ⟨pw_blind, va_recv w.1 w.2.1 (ci := cM) (q0 := 0) rfl rfl, pw_pre w (w.1.sub [0] rfl)⟩ rfl rfl hl.1 rfl (lv_room (Nat.le_of_ble_eq_true rfl)) dL_law_158 ⟨hc, hs⟩) (fun r3 _ H locs hp3 w => ?_)
    have w : pw_S D (px_T cI cO ++ [(cL, .long)]) (fun q => s.heap.size ≤ q) ((pm_W m0 ad cI 0 tm (nf + n1) (pm_fd me nf (((xs (i + 1)).toInt64 <<< ((32 : Int32).toInt64 &&& 63)) ||| ((xs (i + 2)).toInt64 &&& 4294967295)) n1 n1) nb sc gl nu si wh pl sm ms mg mn mk md ++ (px_W a0 af ab o ar cI cO fd1 (nf + n1) sg nb lw aw tm G B ++ [(qo, .inl (cL, 1, .inr (.inl f1)))]))) s _ _ := w
    refine lv_iload hx hb dL_law_161 (lv_at hl 1 rfl) ?_
    refine lv_icmp_eq (tgt := 168) hx hb dL_law_163 (by decide) (fun _ => ?_) (fun h9 => absurd hp3 h9)
    refine lv_iload hx hb dL_law_168 (lv_at hl 1 rfl) ?_
    refine lv_if_ne (tgt := 185) hx hb dL_law_170 (by decide) (fun h9 => absurd rfl h9) (fun _ => ?_)
    refine lv_aload_n hx hb dL_law_173 rfl (lv_at hl 5 rfl) ?_
    refine lv_iconst (v := 0) hx hb dL_law_174 (by decide) ?_
    refine pw_lald S w 22 2 (x := qo) (f := f1) (n := 1) (cA := cL) rfl rfl (j := 0) (by decide) (by decide) dL_law_175 ?_
    refine lv_iload hx hb dL_law_176 (lv_at hl 0 rfl) ?_
    refine lv_i2l hx hb dL_law_178 rfl ?_
    refine W.lcmp hx hb dL_law_179 ?_
    refine lv_if_eq (tgt := 185) hx hb dL_law_180 (by decide) (fun _ => ?_) (fun h9 => absurd (by rw [hans]; exact pl_cmp _) h9)
    refine lv_goto (tgt := 583) hx hb dL_law_185 (by decide) ?_
    exact kk _ _ _ ⟨fd1, (nf + n1), sg, nb, lw, aw, tm, G, B, 0, _, sc, gl, nu, si, wh, pl, sm, ms, mg, mn, mk, md, f1, htm, hF2, hW, hLs, w⟩ (lv_sub hl [2, 3, 4, 5, 6] rfl)
end
section
set_option maxHeartbeats 4000000 in
set_option maxRecDepth 100000 in
/-- the law's case: piece -/
theorem pl_k_piece {p : Program} {l : Launch} {e : Env} {s : State} {m : MethodId} {below : List Frame} {meth : Method} {c : Code} {b L : Nat} {xs : Nat → Int32} {D : va_G} {a0 af ab : Nat} {o ar : Nat → Nat} {cI cO : ClassId} {m0 : Nat} {ad : Nat → Nat} {qo : Nat} {cL : ClassId} {H : Heap} {locs : List Loc} {ls : Array Slot} {cells slots i : Nat} {Q : State → Prop}
    (hl9 : l.stackTraces = false) (S : pw_Fx p m c cL_law 7 s #[Value.ref b] RL) (hX : va_X b L xs s s.heap) (hbl : b < s.heap.size) (hL : L ≤ 3072) (hi : i + 6 ≤ L) (hc : cells + 1 ≤ 601024) (hs : slots + 6 ≤ 7293034) (st : pl_St D s a0 af ab o ar cI cO m0 ad qo cL H locs) (hl : lv_has ls 7 [(0, .ref b), (1, .ref a0), (2, .ref m0), (3, .ref qo), (4, .int (nI i))])
    (kk : ∀ (H1 : Heap) (locs1 : List Loc) (ls1 : Array Slot), pl_St D s a0 af ab o ar cI cO m0 ad qo cL H1 locs1 → lv_has ls1 7 [(0, .ref b), (1, .ref a0), (2, .ref m0), (3, .ref qo), (4, .int (nI i))] → W p l e room_1 s m #[Value.ref b] below meth c H1 locs1 (cells + 1) (slots + 6) Q (F0 m 583 ls1 [])) :
    W p l e room_1 s m #[Value.ref b] below meth c H locs cells slots Q (F0 m 188 ls []) := by
  obtain ⟨fd, nf, sg, nb, lw, aw, tm, G, B, cd, me, sc, gl, nu, si, wh, pl, sm, ms, mg, mn, mk, md, f, htm, hF, hW, hLs, w⟩ := st
  obtain ⟨hx, hb, hml, hown, hts⟩ := id S
  refine lv_aload_n hx hb dL_law_188 rfl (lv_at hl 1 rfl) ?_
  refine lv_aload_n hx hb dL_law_189 rfl (lv_at hl 0 rfl) ?_
  refine lv_iload hx hb dL_law_190 (lv_at hl 4 rfl) ?_
  refine lv_iconst (v := 1) hx hb dL_law_192 (by decide) ?_
  refine lv_iadd hx hb dL_law_193 ?_
  refine pw_top (y := nI (i + 1)) (nI_add i 1) ?_
  refine pw_sld S w hX hbl (j := (i + 1)) (by omega) hL dL_law_194 ?_
  refine lv_aload_n hx hb dL_law_195 rfl (lv_at hl 0 rfl) ?_
  refine lv_iload hx hb dL_law_196 (lv_at hl 4 rfl) ?_
  refine lv_iconst (v := 2) hx hb dL_law_198 (by decide) ?_
  refine lv_iadd hx hb dL_law_199 ?_
  refine pw_top (y := nI (i + 2)) (nI_add i 2) ?_
  refine pw_sld S w hX hbl (j := (i + 2)) (by omega) hL dL_law_200 ?_
  refine lv_aload_n hx hb dL_law_201 rfl (lv_at hl 0 rfl) ?_
  refine lv_iload hx hb dL_law_202 (lv_at hl 4 rfl) ?_
  refine lv_iconst (v := 3) hx hb dL_law_204 (by decide) ?_
  refine lv_iadd hx hb dL_law_205 ?_
  refine pw_top (y := nI (i + 3)) (nI_add i 3) ?_
  refine pw_sld S w hX hbl (j := (i + 3)) (by omega) hL dL_law_206 ?_
  refine lv_aload_n hx hb dL_law_207 rfl (lv_at hl 0 rfl) ?_
  refine lv_iload hx hb dL_law_208 (lv_at hl 4 rfl) ?_
  refine lv_iconst (v := 4) hx hb dL_law_210 (by decide) ?_
  refine lv_iadd hx hb dL_law_211 ?_
  refine pw_top (y := nI (i + 4)) (nI_add i 4) ?_
  refine pw_sld S w hX hbl (j := (i + 4)) (by omega) hL dL_law_212 ?_
  refine lv_aload_n hx hb dL_law_213 rfl (lv_at hl 0 rfl) ?_
  refine lv_iload hx hb dL_law_214 (lv_at hl 4 rfl) ?_
  refine lv_iconst (v := 5) hx hb dL_law_216 (by decide) ?_
  refine lv_iadd hx hb dL_law_217 ?_
  refine pw_top (y := nI (i + 5)) (nI_add i 5) ?_
  refine pw_sld S w hX hbl (j := (i + 5)) (by omega) hL dL_law_218 ?_
  refine lv_aload_n hx hb dL_law_219 rfl (lv_at hl 3 rfl) ?_
  have w1 : pw_S D (px_T cI cO ++ [(cL, .long)]) (fun q => s.heap.size ≤ q) (pm_W m0 ad cI cd tm nf me nb sc gl nu si wh pl sm ms mg mn mk md ++ ((px_W a0 af ab o ar cI cO fd nf sg nb lw aw tm G B ++ [(qo, .inl (cL, 1, .inr (.inl f)))]) ++ [])) s _ _ := w.to (by rw [List.append_nil])
  refine pw_goi w1 (vx_runSW (As := [.ref a0, .int (xs (i + 1)), .int (xs (i + 2)), .int (xs (i + 3)), .int (xs (i + 4)), .int (xs (i + 5)), .ref qo]) (rest := []) S (pl_c_piece l D a0 af ab o ar cI cO fd nf sg nb lw aw tm G B _ qo cL f hl9 hF.1 hW.1 hW.2.1.1 hW.2.1.2.1 (xs (i + 1)) (xs (i + 2)) (xs (i + 3)) (xs (i + 4)) (xs (i + 5))) (pw_cW (n := 7) S eL_49 tL_piece iniL kL_piece rfl rfl (by decide +kernel) ⟨by decide, by decide⟩) ⟨pw_blind, pw_pre w1 w1.1⟩ rfl rfl hl.1 rfl (lv_room (Nat.le_of_ble_eq_true rfl)) dL_law_220 ⟨hc, hs⟩) (fun k u H locs hp w => ?_)
  clear w1
  obtain ⟨x9, f1⟩ := u
  cases x9 with
  | none =>
    have w : pw_S D (px_T cI cO ++ [(cL, .long)]) (fun q => s.heap.size ≤ q) (pm_W m0 ad cI cd tm nf me nb sc gl nu si wh pl sm ms mg mn mk md ++ ((px_W a0 af ab o ar cI cO fd nf sg nb lw aw tm G B ++ [(qo, .inl (cL, 1, .inr (.inl f1)))]) ++ [])) s _ _ := w
    have w : pw_S D (px_T cI cO ++ [(cL, .long)]) (fun q => s.heap.size ≤ q) (pm_W m0 ad cI cd tm nf me nb sc gl nu si wh pl sm ms mg mn mk md ++ (px_W a0 af ab o ar cI cO fd nf sg nb lw aw tm G B ++ [(qo, .inl (cL, 1, .inr (.inl f1)))])) s _ _ := w.to (by rw [List.append_nil])
    have hp : (k = 1 ∧ ¬ (1 ≤ (xs (i + 5)).toInt ∧ (xs (i + 5)).toInt ≤ 1480 ∧ 0 ≤ (xs (i + 4)).toInt)) ∨ (k = 2 ∧ (1 ≤ (xs (i + 5)).toInt ∧ (xs (i + 5)).toInt ≤ 1480 ∧ 0 ≤ (xs (i + 4)).toInt) ∧ ¬ (0 < nf ∧ (xs (i + 4)).toInt + nf ≤ (xs (i + 5)).toInt)) := hp
    have hk0 : ¬ k = 0 := by rcases hp with ⟨rfl, -⟩ | ⟨rfl, -⟩ <;> decide
    refine lv_istore (lv' := [(5, .int k), (0, .ref b), (1, .ref a0), (2, .ref m0), (3, .ref qo), (4, .int (nI i))]) hx hb dL_law_223 hl (by decide) rfl (fun ls hl => ?_)
    refine lv_aload_n hx hb dL_law_225 rfl (lv_at hl 3 rfl) ?_
    refine lv_aload_n hx hb dL_law_226 rfl (lv_at hl 1 rfl) ?_
    refine lv_iload hx hb dL_law_227 (lv_at hl 5 rfl) ?_
    refine lv_iconst (v := 1) hx hb dL_law_229 (by decide) ?_
    refine lv_iadd hx hb dL_law_230 ?_
    refine pw_top (y := nI (i + 1)) (nI_add i 1) ?_
    refine pw_sld S w hX hbl (j := (i + 1)) (by omega) hL dL_law_231 ?_
    refine lv_aload_n hx hb dL_law_232 rfl (lv_at hl 1 rfl) ?_
    refine lv_iload hx hb dL_law_233 (lv_at hl 5 rfl) ?_
    refine lv_iconst (v := 2) hx hb dL_law_235 (by decide) ?_
    refine lv_iadd hx hb dL_law_236 ?_
    refine pw_top (y := nI (i + 2)) (nI_add i 2) ?_
    refine pw_sld S w hX hbl (j := (i + 2)) (by omega) hL dL_law_237 ?_
    refine lv_aload_n hx hb dL_law_238 rfl (lv_at hl 1 rfl) ?_
    refine lv_iload hx hb dL_law_239 (lv_at hl 5 rfl) ?_
    refine lv_iconst (v := 3) hx hb dL_law_241 (by decide) ?_
    refine lv_iadd hx hb dL_law_242 ?_
    refine pw_top (y := nI (i + 3)) (nI_add i 3) ?_
    refine pw_sld S w hX hbl (j := (i + 3)) (by omega) hL dL_law_243 ?_
    refine lv_aload_n hx hb dL_law_244 rfl (lv_at hl 1 rfl) ?_
    refine lv_iload hx hb dL_law_245 (lv_at hl 5 rfl) ?_
    refine lv_iconst (v := 4) hx hb dL_law_247 (by decide) ?_
    refine lv_iadd hx hb dL_law_248 ?_
    refine pw_top (y := nI (i + 4)) (nI_add i 4) ?_
    refine pw_sld S w hX hbl (j := (i + 4)) (by omega) hL dL_law_249 ?_
    refine lv_aload_n hx hb dL_law_250 rfl (lv_at hl 1 rfl) ?_
    refine lv_iload hx hb dL_law_251 (lv_at hl 5 rfl) ?_
    refine lv_iconst (v := 5) hx hb dL_law_253 (by decide) ?_
    refine lv_iadd hx hb dL_law_254 ?_
    refine pw_top (y := nI (i + 5)) (nI_add i 5) ?_
    refine pw_sld S w hX hbl (j := (i + 5)) (by omega) hL dL_law_255 ?_
    have w : pw_S D (px_T cI cO ++ [(cL, .long)]) (fun q => s.heap.size ≤ q) ([] ++ (pm_W m0 ad cI cd tm nf me nb sc gl nu si wh pl sm ms mg mn mk md ++ (px_W a0 af ab o ar cI cO fd nf sg nb lw aw tm G B ++ [(qo, .inl (cL, 1, .inr (.inl f1)))]))) s _ _ := w
    refine pw_goi0 w (va_runV (C := RM) (As := [.int (xs (i + 1)), .int (xs (i + 2)), .int (xs (i + 3)), .int (xs (i + 4)), .int (xs (i + 5))]) (rest := []) S (pm_c_piece l D m0 ad cI cd tm nf me nb sc gl nu si wh pl sm ms mg mn mk md _ hF.1 hW.1 (xs (i + 1)) (xs (i + 2)) (xs (i + 3)) (xs (i + 4)) (xs (i + 5))) (pw_cw (n := 5) S eL_52 iM_piece sM_piece iniM kM_piece rfl rfl (by decide +kernel) ⟨by decide, by decide⟩) ⟨pw_blind, va_recv w.1 w.2.1 (ci := cM) (q0 := 0) rfl rfl, pw_pre w (w.1.sub [0] rfl)⟩ rfl rfl hl.1 rfl (lv_room (Nat.le_of_ble_eq_true rfl)) dL_law_256 ⟨hc, hs⟩) (fun r2 u2 H locs hp2 w => ?_)
    have key : u2 = (k, nf, nb, sc, gl, nu, si, wh, pl, sm, ms, mg, mn, mk, md) := by
      rcases hp with ⟨rfl, h1⟩ | ⟨rfl, h1, h2⟩ <;> rcases hp2 with ⟨h3, h4⟩ | ⟨h3, h4, h5⟩ | ⟨fr, w0, x, g1, g2, g3, g4, g5, g6, -⟩
      · exact h3
      · exact absurd h4 h1
      · exact absurd (by rw [g1, g2, nI_toInt (by omega), nI_toInt (by omega)]; omega) h1
      · exact absurd h1 h4
      · exact h3
      · exact absurd (by rw [g1, g2, nI_toInt (by omega), nI_toInt (by omega)]; omega) h2
    subst key
    refine lv_istore (lv' := [(6, .int r2), (5, .int k), (0, .ref b), (1, .ref a0), (2, .ref m0), (3, .ref qo), (4, .int (nI i))]) hx hb dL_law_259 hl (by decide) rfl (fun ls hl => ?_)
    refine lv_aload_n hx hb dL_law_261 rfl (lv_at hl 4 rfl) ?_
    have w : pw_S D (px_T cI cO ++ [(cL, .long)]) (fun q => s.heap.size ≤ q) ([] ++ (pm_W m0 ad cI k tm nf me nb sc gl nu si wh pl sm ms mg mn mk md ++ (px_W a0 af ab o ar cI cO fd nf sg nb lw aw tm G B ++ [(qo, .inl (cL, 1, .inr (.inl f1)))]))) s _ _ := w
    refine pw_goi0 w (va_runV (C := RM) (As := []) (rest := []) S (pm_c_thrown l D m0 ad cI k tm nf me nb sc gl nu si wh pl sm ms mg mn mk md _ ) (pw_cw (n := 0) S eL_45 iM_thrown sM_thrown iniM kM_thrown rfl rfl (by decide +kernel) ⟨by decide, by decide⟩) ⟨pw_blind, va_recv w.1 w.2.1 (ci := cM) (q0 := 0) rfl rfl, pw_pre w (w.1.sub [0] rfl)⟩ rfl rfl hl.1 rfl (lv_room (Nat.le_of_ble_eq_true rfl)) dL_law_262 ⟨hc, hs⟩) (fun r3 _ H locs hp3 w => ?_)
    have w : pw_S D (px_T cI cO ++ [(cL, .long)]) (fun q => s.heap.size ≤ q) ((pm_W m0 ad cI k tm nf me nb sc gl nu si wh pl sm ms mg mn mk md ++ (px_W a0 af ab o ar cI cO fd nf sg nb lw aw tm G B ++ [(qo, .inl (cL, 1, .inr (.inl f1)))]))) s _ _ := w
    refine lv_iload hx hb dL_law_265 (lv_at hl 1 rfl) ?_
    refine lv_icmp_eq (tgt := 272) hx hb dL_law_267 (by decide) (fun _ => ?_) (fun h9 => absurd hp3 h9)
    refine lv_iload hx hb dL_law_272 (lv_at hl 1 rfl) ?_
    refine lv_if_ne (tgt := 289) hx hb dL_law_274 (by decide) (fun _ => ?_) (fun h9 => absurd h9 hk0)
    refine lv_goto (tgt := 583) hx hb dL_law_289 (by decide) ?_
    exact kk _ _ _ ⟨fd, nf, sg, nb, lw, aw, tm, G, B, k, me, sc, gl, nu, si, wh, pl, sm, ms, mg, mn, mk, md, f1, htm, hF, hW, hLs, w⟩ (lv_sub hl [2, 3, 4, 5, 6] rfl)
  | some u1 =>
    obtain ⟨sg1, nb1, lw1, aw1, G1, B1⟩ := u1
    obtain ⟨rfl, r, ⟨fr, wh0, x, q1, q2, q3, q4, q5, q6, q7, q8⟩, hf1⟩ := hp
    have w : pw_S D (px_T cI cO ++ [(cL, .long)]) (fun q => s.heap.size ≤ q) (pm_W m0 ad cI cd tm nf me nb sc gl nu si wh pl sm ms mg mn mk md ++ ((px_W a0 af ab o ar cI cO fd 0 sg1 nb1 lw1 aw1 tm G1 B1 ++ [(qo, .inl (cL, 1, .inr (.inl f1)))]) ++ [])) s _ _ := w
    have w : pw_S D (px_T cI cO ++ [(cL, .long)]) (fun q => s.heap.size ≤ q) (pm_W m0 ad cI cd tm nf me nb sc gl nu si wh pl sm ms mg mn mk md ++ (px_W a0 af ab o ar cI cO fd 0 sg1 nb1 lw1 aw1 tm G1 B1 ++ [(qo, .inl (cL, 1, .inr (.inl f1)))])) s _ _ := w.to (by rw [List.append_nil])
    dsimp only at hf1
    refine lv_istore (lv' := [(5, .int 0), (0, .ref b), (1, .ref a0), (2, .ref m0), (3, .ref qo), (4, .int (nI i))]) hx hb dL_law_223 hl (by decide) rfl (fun ls hl => ?_)
    refine lv_aload_n hx hb dL_law_225 rfl (lv_at hl 3 rfl) ?_
    refine lv_aload_n hx hb dL_law_226 rfl (lv_at hl 1 rfl) ?_
    refine lv_iload hx hb dL_law_227 (lv_at hl 5 rfl) ?_
    refine lv_iconst (v := 1) hx hb dL_law_229 (by decide) ?_
    refine lv_iadd hx hb dL_law_230 ?_
    refine pw_top (y := nI (i + 1)) (nI_add i 1) ?_
    refine pw_sld S w hX hbl (j := (i + 1)) (by omega) hL dL_law_231 ?_
    refine lv_aload_n hx hb dL_law_232 rfl (lv_at hl 1 rfl) ?_
    refine lv_iload hx hb dL_law_233 (lv_at hl 5 rfl) ?_
    refine lv_iconst (v := 2) hx hb dL_law_235 (by decide) ?_
    refine lv_iadd hx hb dL_law_236 ?_
    refine pw_top (y := nI (i + 2)) (nI_add i 2) ?_
    refine pw_sld S w hX hbl (j := (i + 2)) (by omega) hL dL_law_237 ?_
    refine lv_aload_n hx hb dL_law_238 rfl (lv_at hl 1 rfl) ?_
    refine lv_iload hx hb dL_law_239 (lv_at hl 5 rfl) ?_
    refine lv_iconst (v := 3) hx hb dL_law_241 (by decide) ?_
    refine lv_iadd hx hb dL_law_242 ?_
    refine pw_top (y := nI (i + 3)) (nI_add i 3) ?_
    refine pw_sld S w hX hbl (j := (i + 3)) (by omega) hL dL_law_243 ?_
    refine lv_aload_n hx hb dL_law_244 rfl (lv_at hl 1 rfl) ?_
    refine lv_iload hx hb dL_law_245 (lv_at hl 5 rfl) ?_
    refine lv_iconst (v := 4) hx hb dL_law_247 (by decide) ?_
    refine lv_iadd hx hb dL_law_248 ?_
    refine pw_top (y := nI (i + 4)) (nI_add i 4) ?_
    refine pw_sld S w hX hbl (j := (i + 4)) (by omega) hL dL_law_249 ?_
    refine lv_aload_n hx hb dL_law_250 rfl (lv_at hl 1 rfl) ?_
    refine lv_iload hx hb dL_law_251 (lv_at hl 5 rfl) ?_
    refine lv_iconst (v := 5) hx hb dL_law_253 (by decide) ?_
    refine lv_iadd hx hb dL_law_254 ?_
    refine pw_top (y := nI (i + 5)) (nI_add i 5) ?_
    refine pw_sld S w hX hbl (j := (i + 5)) (by omega) hL dL_law_255 ?_
    have w : pw_S D (px_T cI cO ++ [(cL, .long)]) (fun q => s.heap.size ≤ q) ([] ++ (pm_W m0 ad cI cd tm nf me nb sc gl nu si wh pl sm ms mg mn mk md ++ (px_W a0 af ab o ar cI cO fd 0 sg1 nb1 lw1 aw1 tm G1 B1 ++ [(qo, .inl (cL, 1, .inr (.inl f1)))]))) s _ _ := w
    refine pw_goi0 w (va_runV (C := RM) (As := [.int (xs (i + 1)), .int (xs (i + 2)), .int (xs (i + 3)), .int (xs (i + 4)), .int (xs (i + 5))]) (rest := []) S (pm_c_piece l D m0 ad cI cd tm nf me nb sc gl nu si wh pl sm ms mg mn mk md _ hF.1 hW.1 (xs (i + 1)) (xs (i + 2)) (xs (i + 3)) (xs (i + 4)) (xs (i + 5))) (pw_cw (n := 5) S eL_52 iM_piece sM_piece iniM kM_piece rfl rfl (by decide +kernel) ⟨by decide, by decide⟩) ⟨pw_blind, va_recv w.1 w.2.1 (ci := cM) (q0 := 0) rfl rfl, pw_pre w (w.1.sub [0] rfl)⟩ rfl rfl hl.1 rfl (lv_room (Nat.le_of_ble_eq_true rfl)) dL_law_256 ⟨hc, hs⟩) (fun r2 u2 H locs hp2 w => ?_)
    have hw9 : (xs (i + 5)).toInt = wh0 := by rw [q2, nI_toInt (by omega)]
    have hf9 : (xs (i + 4)).toInt = fr := by rw [q1, nI_toInt (by omega)]
    have key : ∃ (fr2 w2 : Nat) (x2 : Option Nat), (xs (i + 4)) = nI fr2 ∧ (xs (i + 5)) = nI w2 ∧ 1 ≤ w2 ∧ w2 ≤ 1480 ∧ 0 < nf ∧ fr2 + nf ≤ w2 ∧ pm_fnd sc gl nu nb (xs (i + 1)) (xs (i + 2)) (xs (i + 3)) x2 ∧ u2.1 = 0 ∧ u2.2.1 = 0 ∧ (r2, u2.2.2) = pm_pc me nf fr2 w2 (xs (i + 1)) (xs (i + 2)) (xs (i + 3)) (xs (i + 5)) tm nb sc gl nu si wh pl sm ms mg mn mk md x2 := by
      rcases hp2 with ⟨h3, h4⟩ | ⟨h3, h4, h5⟩ | h3
      · exact absurd (by rw [hw9, hf9]; omega) h4
      · exact absurd (by rw [hw9, hf9]; omega) h5
      · exact h3
    obtain ⟨fr2, w2, x2, g1, g2, g3, g4, g5, g6, g7, g8, g9, g10⟩ := key
    have e1 : fr2 = fr := (nI_eq (by omega) (by omega)).mp (g1.symm.trans q1)
    have e2 : w2 = wh0 := (nI_eq (by omega) (by omega)).mp (g2.symm.trans q2)
    have e3 : x = x2 := pr_fnd hW q7 g7
    subst e1 e2 e3
    obtain ⟨t1, t2⟩ := pr_piece (tm := tm) (a := (xs (i + 1))) (b := (xs (i + 2))) (d3 := (xs (i + 3))) hW hLs hF q7 g7 q2 q3 q4 q6
    rw [← q8, ← g10] at t1 t2
    obtain ⟨cd2, mf2, ct2, sc2, gl2, nu2, si2, wh2, pl2, sm2, ms2, mg2, mn2, mk2, md2⟩ := u2
    obtain ⟨t2, t3, t4⟩ := t2
    dsimp only at g8 g9 t1 t2 t3 t4
    subst g8 g9 t2
    have hans : f1 0 = r2.toInt64 := by rw [hf1, t1]
    refine lv_istore (lv' := [(6, .int r2), (5, .int 0), (0, .ref b), (1, .ref a0), (2, .ref m0), (3, .ref qo), (4, .int (nI i))]) hx hb dL_law_259 hl (by decide) rfl (fun ls hl => ?_)
    refine lv_aload_n hx hb dL_law_261 rfl (lv_at hl 4 rfl) ?_
    have w : pw_S D (px_T cI cO ++ [(cL, .long)]) (fun q => s.heap.size ≤ q) ([] ++ (pm_W m0 ad cI 0 tm 0 me nb1 sc2 gl2 nu2 si2 wh2 pl2 sm2 ms2 mg2 mn2 mk2 md2 ++ (px_W a0 af ab o ar cI cO fd 0 sg1 nb1 lw1 aw1 tm G1 B1 ++ [(qo, .inl (cL, 1, .inr (.inl f1)))]))) s _ _ := w
    refine pw_goi0 w (va_runV (C := RM) (As := []) (rest := []) S (pm_c_thrown l D m0 ad cI 0 tm 0 me nb1 sc2 gl2 nu2 si2 wh2 pl2 sm2 ms2 mg2 mn2 mk2 md2 _ ) (pw_cw (n := 0) S eL_45 iM_thrown sM_thrown iniM kM_thrown rfl rfl (by decide +kernel) ⟨by decide, by decide⟩) ⟨pw_blind, va_recv w.1 w.2.1 (ci := cM) (q0 := 0) rfl rfl, pw_pre w (w.1.sub [0] rfl)⟩ rfl rfl hl.1 rfl (lv_room (Nat.le_of_ble_eq_true rfl)) dL_law_262 ⟨hc, hs⟩) (fun r3 _ H locs hp3 w => ?_)
    have w : pw_S D (px_T cI cO ++ [(cL, .long)]) (fun q => s.heap.size ≤ q) ((pm_W m0 ad cI 0 tm 0 me nb1 sc2 gl2 nu2 si2 wh2 pl2 sm2 ms2 mg2 mn2 mk2 md2 ++ (px_W a0 af ab o ar cI cO fd 0 sg1 nb1 lw1 aw1 tm G1 B1 ++ [(qo, .inl (cL, 1, .inr (.inl f1)))]))) s _ _ := w
    refine lv_iload hx hb dL_law_265 (lv_at hl 1 rfl) ?_
    refine lv_icmp_eq (tgt := 272) hx hb dL_law_267 (by decide) (fun _ => ?_) (fun h9 => absurd hp3 h9)
    refine lv_iload hx hb dL_law_272 (lv_at hl 1 rfl) ?_
    refine lv_if_ne (tgt := 289) hx hb dL_law_274 (by decide) (fun h9 => absurd rfl h9) (fun _ => ?_)
    refine lv_aload_n hx hb dL_law_277 rfl (lv_at hl 5 rfl) ?_
    refine lv_iconst (v := 0) hx hb dL_law_278 (by decide) ?_
    refine pw_lald S w 22 2 (x := qo) (f := f1) (n := 1) (cA := cL) rfl rfl (j := 0) (by decide) (by decide) dL_law_279 ?_
    refine lv_iload hx hb dL_law_280 (lv_at hl 0 rfl) ?_
    refine lv_i2l hx hb dL_law_282 rfl ?_
    refine W.lcmp hx hb dL_law_283 ?_
    refine lv_if_eq (tgt := 289) hx hb dL_law_284 (by decide) (fun _ => ?_) (fun h9 => absurd (by rw [hans]; exact pl_cmp _) h9)
    refine lv_goto (tgt := 583) hx hb dL_law_289 (by decide) ?_
    exact kk _ _ _ ⟨fd, 0, sg1, nb1, lw1, aw1, tm, G1, B1, 0, me, sc2, gl2, nu2, si2, wh2, pl2, sm2, ms2, mg2, mn2, mk2, md2, f1, htm, ⟨Nat.zero_le _, fun i9 hi9 => absurd hi9 (Nat.not_lt_zero i9)⟩, t3, t4, w⟩ (lv_sub hl [2, 3, 4, 5, 6] rfl)
end
section
set_option maxHeartbeats 4000000 in
set_option maxRecDepth 100000 in
/-- the law's case: pass -/
theorem pl_k_pass {p : Program} {l : Launch} {e : Env} {s : State} {m : MethodId} {below : List Frame} {meth : Method} {c : Code} {b L : Nat} {xs : Nat → Int32} {D : va_G} {a0 af ab : Nat} {o ar : Nat → Nat} {cI cO : ClassId} {m0 : Nat} {ad : Nat → Nat} {qo : Nat} {cL : ClassId} {H : Heap} {locs : List Loc} {ls : Array Slot} {cells slots i : Nat} {Q : State → Prop}
    (hl9 : l.stackTraces = false) (S : pw_Fx p m c cL_law 7 s #[Value.ref b] RL) (hX : va_X b L xs s s.heap) (hbl : b < s.heap.size) (hL : L ≤ 3072) (hi : i + 6 ≤ L) (hc : cells + 1 ≤ 601024) (hs : slots + 6 ≤ 7293034) (st : pl_St D s a0 af ab o ar cI cO m0 ad qo cL H locs) (hl : lv_has ls 7 [(0, .ref b), (1, .ref a0), (2, .ref m0), (3, .ref qo), (4, .int (nI i))])
    (kk : ∀ (H1 : Heap) (locs1 : List Loc) (ls1 : Array Slot), pl_St D s a0 af ab o ar cI cO m0 ad qo cL H1 locs1 → lv_has ls1 7 [(0, .ref b), (1, .ref a0), (2, .ref m0), (3, .ref qo), (4, .int (nI i))] → W p l e room_1 s m #[Value.ref b] below meth c H1 locs1 (cells + 1) (slots + 6) Q (F0 m 583 ls1 [])) :
    W p l e room_1 s m #[Value.ref b] below meth c H locs cells slots Q (F0 m 292 ls []) := by
  obtain ⟨fd, nf, sg, nb, lw, aw, tm, G, B, cd, me, sc, gl, nu, si, wh, pl, sm, ms, mg, mn, mk, md, f, htm, hF, hW, hLs, w⟩ := st
  obtain ⟨hx, hb, hml, hown, hts⟩ := id S
  refine lv_aload_n hx hb dL_law_292 rfl (lv_at hl 1 rfl) ?_
  refine lv_aload_n hx hb dL_law_293 rfl (lv_at hl 0 rfl) ?_
  refine lv_iload hx hb dL_law_294 (lv_at hl 4 rfl) ?_
  refine lv_iconst (v := 1) hx hb dL_law_296 (by decide) ?_
  refine lv_iadd hx hb dL_law_297 ?_
  refine pw_top (y := nI (i + 1)) (nI_add i 1) ?_
  refine pw_sld S w hX hbl (j := (i + 1)) (by omega) hL dL_law_298 ?_
  refine lv_aload_n hx hb dL_law_299 rfl (lv_at hl 3 rfl) ?_
  have w1 : pw_S D (px_T cI cO ++ [(cL, .long)]) (fun q => s.heap.size ≤ q) (pm_W m0 ad cI cd tm nf me nb sc gl nu si wh pl sm ms mg mn mk md ++ ((px_W a0 af ab o ar cI cO fd nf sg nb lw aw tm G B ++ [(qo, .inl (cL, 1, .inr (.inl f)))]) ++ [])) s _ _ := w.to (by rw [List.append_nil])
  refine pw_goi w1 (vx_runSW (As := [.ref a0, .int (xs (i + 1)), .ref qo]) (rest := []) S (pl_c_pass l D a0 af ab o ar cI cO fd nf sg nb lw aw tm G B _ qo cL f hl9 htm hW.1 hW.2.1.1 (xs (i + 1))) (pw_cW (n := 3) S eL_53 tL_pass iniL kL_pass rfl rfl (by decide +kernel) ⟨by decide, by decide⟩) ⟨pw_blind, pw_pre w1 w1.1⟩ rfl rfl hl.1 rfl (lv_room (Nat.le_of_ble_eq_true rfl)) dL_law_300 ⟨hc, hs⟩) (fun k u H locs hp w => ?_)
  clear w1
  obtain ⟨x9, f1⟩ := u
  cases x9 with
  | none =>
    have w : pw_S D (px_T cI cO ++ [(cL, .long)]) (fun q => s.heap.size ≤ q) (pm_W m0 ad cI cd tm nf me nb sc gl nu si wh pl sm ms mg mn mk md ++ ((px_W a0 af ab o ar cI cO fd nf sg nb lw aw tm G B ++ [(qo, .inl (cL, 1, .inr (.inl f1)))]) ++ [])) s _ _ := w
    have w : pw_S D (px_T cI cO ++ [(cL, .long)]) (fun q => s.heap.size ≤ q) (pm_W m0 ad cI cd tm nf me nb sc gl nu si wh pl sm ms mg mn mk md ++ (px_W a0 af ab o ar cI cO fd nf sg nb lw aw tm G B ++ [(qo, .inl (cL, 1, .inr (.inl f1)))])) s _ _ := w.to (by rw [List.append_nil])
    have hp : (k = 1 ∧ ¬ (0 ≤ (xs (i + 1)).toInt ∧ (xs (i + 1)).toInt ≤ 1000000)) ∨ (k = 2 ∧ (0 ≤ (xs (i + 1)).toInt ∧ (xs (i + 1)).toInt ≤ 1000000) ∧ 1000000000 < (tm : Int) + (xs (i + 1)).toInt) := hp
    have hk0 : ¬ k = 0 := by rcases hp with ⟨rfl, -⟩ | ⟨rfl, -⟩ <;> decide
    refine lv_istore (lv' := [(5, .int k), (0, .ref b), (1, .ref a0), (2, .ref m0), (3, .ref qo), (4, .int (nI i))]) hx hb dL_law_303 hl (by decide) rfl (fun ls hl => ?_)
    refine lv_aload_n hx hb dL_law_305 rfl (lv_at hl 3 rfl) ?_
    refine lv_aload_n hx hb dL_law_306 rfl (lv_at hl 1 rfl) ?_
    refine lv_iload hx hb dL_law_307 (lv_at hl 5 rfl) ?_
    refine lv_iconst (v := 1) hx hb dL_law_309 (by decide) ?_
    refine lv_iadd hx hb dL_law_310 ?_
    refine pw_top (y := nI (i + 1)) (nI_add i 1) ?_
    refine pw_sld S w hX hbl (j := (i + 1)) (by omega) hL dL_law_311 ?_
    have w : pw_S D (px_T cI cO ++ [(cL, .long)]) (fun q => s.heap.size ≤ q) ([] ++ (pm_W m0 ad cI cd tm nf me nb sc gl nu si wh pl sm ms mg mn mk md ++ (px_W a0 af ab o ar cI cO fd nf sg nb lw aw tm G B ++ [(qo, .inl (cL, 1, .inr (.inl f1)))]))) s _ _ := w
    refine pw_goi0 w (va_runV (C := RM) (As := [.int (xs (i + 1))]) (rest := []) S (pm_c_pass l D m0 ad cI cd tm nf me nb sc gl nu si wh pl sm ms mg mn mk md _ htm hW.1 (xs (i + 1))) (pw_cw (n := 1) S eL_56 iM_pass sM_pass iniM kM_pass rfl rfl (by decide +kernel) ⟨by decide, by decide⟩) ⟨pw_blind, va_recv w.1 w.2.1 (ci := cM) (q0 := 0) rfl rfl, pw_pre w (w.1.sub [0] rfl)⟩ rfl rfl hl.1 rfl (lv_room (Nat.le_of_ble_eq_true rfl)) dL_law_312 ⟨hc, hs⟩) (fun r2 u2 H locs hp2 w => ?_)
    have key : u2 = (k, tm, nb, sc, gl, nu, si, wh, pl) := by
      rcases hp with ⟨rfl, h1⟩ | ⟨rfl, h1, h2⟩ <;> rcases hp2 with ⟨h3, h4⟩ | ⟨h3, h4, h5⟩ | ⟨n9, g1, g2, g3, -⟩
      · exact h3
      · exact absurd h4 h1
      · exact absurd (by rw [g2, nI_toInt (by omega)]; omega) h1
      · exact absurd h1 h4
      · exact h3
      · exact absurd h2 (by rw [g2, nI_toInt (by omega)]; omega)
    subst key
    refine lv_istore (lv' := [(6, .int r2), (5, .int k), (0, .ref b), (1, .ref a0), (2, .ref m0), (3, .ref qo), (4, .int (nI i))]) hx hb dL_law_315 hl (by decide) rfl (fun ls hl => ?_)
    refine lv_aload_n hx hb dL_law_317 rfl (lv_at hl 4 rfl) ?_
    have w : pw_S D (px_T cI cO ++ [(cL, .long)]) (fun q => s.heap.size ≤ q) ([] ++ (pm_W m0 ad cI k tm nf me nb sc gl nu si wh pl sm ms mg mn mk md ++ (px_W a0 af ab o ar cI cO fd nf sg nb lw aw tm G B ++ [(qo, .inl (cL, 1, .inr (.inl f1)))]))) s _ _ := w
    refine pw_goi0 w (va_runV (C := RM) (As := []) (rest := []) S (pm_c_thrown l D m0 ad cI k tm nf me nb sc gl nu si wh pl sm ms mg mn mk md _ ) (pw_cw (n := 0) S eL_45 iM_thrown sM_thrown iniM kM_thrown rfl rfl (by decide +kernel) ⟨by decide, by decide⟩) ⟨pw_blind, va_recv w.1 w.2.1 (ci := cM) (q0 := 0) rfl rfl, pw_pre w (w.1.sub [0] rfl)⟩ rfl rfl hl.1 rfl (lv_room (Nat.le_of_ble_eq_true rfl)) dL_law_318 ⟨hc, hs⟩) (fun r3 _ H locs hp3 w => ?_)
    have w : pw_S D (px_T cI cO ++ [(cL, .long)]) (fun q => s.heap.size ≤ q) ((pm_W m0 ad cI k tm nf me nb sc gl nu si wh pl sm ms mg mn mk md ++ (px_W a0 af ab o ar cI cO fd nf sg nb lw aw tm G B ++ [(qo, .inl (cL, 1, .inr (.inl f1)))]))) s _ _ := w
    refine lv_iload hx hb dL_law_321 (lv_at hl 1 rfl) ?_
    refine lv_icmp_eq (tgt := 328) hx hb dL_law_323 (by decide) (fun _ => ?_) (fun h9 => absurd hp3 h9)
    refine lv_iload hx hb dL_law_328 (lv_at hl 1 rfl) ?_
    refine lv_if_ne (tgt := 345) hx hb dL_law_330 (by decide) (fun _ => ?_) (fun h9 => absurd h9 hk0)
    refine lv_goto (tgt := 583) hx hb dL_law_345 (by decide) ?_
    exact kk _ _ _ ⟨fd, nf, sg, nb, lw, aw, tm, G, B, k, me, sc, gl, nu, si, wh, pl, sm, ms, mg, mn, mk, md, f1, htm, hF, hW, hLs, w⟩ (lv_sub hl [2, 3, 4, 5, 6] rfl)
  | some u1 =>
    obtain ⟨rfl, r, ⟨q1, q2, q3, q4⟩, hf1⟩ := hp
    have w : pw_S D (px_T cI cO ++ [(cL, .long)]) (fun q => s.heap.size ≤ q) (pm_W m0 ad cI cd tm nf me nb sc gl nu si wh pl sm ms mg mn mk md ++ ((px_W a0 af ab o ar cI cO fd nf ((px_gv (tm + u1) G 4 sg nb).1) ((px_gv (tm + u1) G 4 sg nb).2) lw aw (tm + u1) G B ++ [(qo, .inl (cL, 1, .inr (.inl f1)))]) ++ [])) s _ _ := w
    have w : pw_S D (px_T cI cO ++ [(cL, .long)]) (fun q => s.heap.size ≤ q) (pm_W m0 ad cI cd tm nf me nb sc gl nu si wh pl sm ms mg mn mk md ++ (px_W a0 af ab o ar cI cO fd nf ((px_gv (tm + u1) G 4 sg nb).1) ((px_gv (tm + u1) G 4 sg nb).2) lw aw (tm + u1) G B ++ [(qo, .inl (cL, 1, .inr (.inl f1)))])) s _ _ := w.to (by rw [List.append_nil])
    dsimp only at hf1
    refine lv_istore (lv' := [(5, .int 0), (0, .ref b), (1, .ref a0), (2, .ref m0), (3, .ref qo), (4, .int (nI i))]) hx hb dL_law_303 hl (by decide) rfl (fun ls hl => ?_)
    refine lv_aload_n hx hb dL_law_305 rfl (lv_at hl 3 rfl) ?_
    refine lv_aload_n hx hb dL_law_306 rfl (lv_at hl 1 rfl) ?_
    refine lv_iload hx hb dL_law_307 (lv_at hl 5 rfl) ?_
    refine lv_iconst (v := 1) hx hb dL_law_309 (by decide) ?_
    refine lv_iadd hx hb dL_law_310 ?_
    refine pw_top (y := nI (i + 1)) (nI_add i 1) ?_
    refine pw_sld S w hX hbl (j := (i + 1)) (by omega) hL dL_law_311 ?_
    have w : pw_S D (px_T cI cO ++ [(cL, .long)]) (fun q => s.heap.size ≤ q) ([] ++ (pm_W m0 ad cI cd tm nf me nb sc gl nu si wh pl sm ms mg mn mk md ++ (px_W a0 af ab o ar cI cO fd nf ((px_gv (tm + u1) G 4 sg nb).1) ((px_gv (tm + u1) G 4 sg nb).2) lw aw (tm + u1) G B ++ [(qo, .inl (cL, 1, .inr (.inl f1)))]))) s _ _ := w
    refine pw_goi0 w (va_runV (C := RM) (As := [.int (xs (i + 1))]) (rest := []) S (pm_c_pass l D m0 ad cI cd tm nf me nb sc gl nu si wh pl sm ms mg mn mk md _ htm hW.1 (xs (i + 1))) (pw_cw (n := 1) S eL_56 iM_pass sM_pass iniM kM_pass rfl rfl (by decide +kernel) ⟨by decide, by decide⟩) ⟨pw_blind, va_recv w.1 w.2.1 (ci := cM) (q0 := 0) rfl rfl, pw_pre w (w.1.sub [0] rfl)⟩ rfl rfl hl.1 rfl (lv_room (Nat.le_of_ble_eq_true rfl)) dL_law_312 ⟨hc, hs⟩) (fun r2 u2 H locs hp2 w => ?_)
    have hni : (xs (i + 1)).toInt = u1 := by rw [q2, nI_toInt (by omega)]
    have key : u2 = (0, tm + u1, pm_gv (tm + u1) nb nb sc gl nu si wh pl) ∧ r2 = nI (nb - (pm_gv (tm + u1) nb nb sc gl nu si wh pl).1) := by
      rcases hp2 with ⟨h3, h4⟩ | ⟨h3, h4, h5⟩ | ⟨n9, g1, g2, g3, g4, g5⟩
      · exact absurd (by rw [hni]; omega) h4
      · rw [hni] at h5; omega
      · have e9 : n9 = u1 := (nI_eq (by omega) (by omega)).mp (g2.symm.trans q2)
        subst e9
        exact ⟨g4, g5⟩
    obtain ⟨rfl, hr2⟩ := key
    obtain ⟨t1, t2⟩ := pr_gv (tm := tm + u1) 4 nb nb sg sc gl nu si wh pl hW hW.1 (Nat.le_refl nb)
    have hans : f1 0 = r2.toInt64 := by rw [hf1, q4, hr2, t1]
    have w : pw_S D (px_T cI cO ++ [(cL, .long)]) (fun q => s.heap.size ≤ q) (pm_W m0 ad cI 0 (tm + u1) nf me ((pm_gv (tm + u1) nb nb sc gl nu si wh pl).1) ((pm_gv (tm + u1) nb nb sc gl nu si wh pl).2.1) ((pm_gv (tm + u1) nb nb sc gl nu si wh pl).2.2.1) ((pm_gv (tm + u1) nb nb sc gl nu si wh pl).2.2.2.1) ((pm_gv (tm + u1) nb nb sc gl nu si wh pl).2.2.2.2.1) ((pm_gv (tm + u1) nb nb sc gl nu si wh pl).2.2.2.2.2.1) ((pm_gv (tm + u1) nb nb sc gl nu si wh pl).2.2.2.2.2.2) sm ms mg mn mk md ++ (px_W a0 af ab o ar cI cO fd nf ((px_gv (tm + u1) G 4 sg nb).1) ((px_gv (tm + u1) G 4 sg nb).2) lw aw (tm + u1) G B ++ [(qo, .inl (cL, 1, .inr (.inl f1)))])) s _ _ := w
    rw [← t1] at w
    refine lv_istore (lv' := [(6, .int r2), (5, .int 0), (0, .ref b), (1, .ref a0), (2, .ref m0), (3, .ref qo), (4, .int (nI i))]) hx hb dL_law_315 hl (by decide) rfl (fun ls hl => ?_)
    refine lv_aload_n hx hb dL_law_317 rfl (lv_at hl 4 rfl) ?_
    have w : pw_S D (px_T cI cO ++ [(cL, .long)]) (fun q => s.heap.size ≤ q) ([] ++ (pm_W m0 ad cI 0 (tm + u1) nf me ((px_gv (tm + u1) G 4 sg nb).2) ((pm_gv (tm + u1) nb nb sc gl nu si wh pl).2.1) ((pm_gv (tm + u1) nb nb sc gl nu si wh pl).2.2.1) ((pm_gv (tm + u1) nb nb sc gl nu si wh pl).2.2.2.1) ((pm_gv (tm + u1) nb nb sc gl nu si wh pl).2.2.2.2.1) ((pm_gv (tm + u1) nb nb sc gl nu si wh pl).2.2.2.2.2.1) ((pm_gv (tm + u1) nb nb sc gl nu si wh pl).2.2.2.2.2.2) sm ms mg mn mk md ++ (px_W a0 af ab o ar cI cO fd nf ((px_gv (tm + u1) G 4 sg nb).1) ((px_gv (tm + u1) G 4 sg nb).2) lw aw (tm + u1) G B ++ [(qo, .inl (cL, 1, .inr (.inl f1)))]))) s _ _ := w
    refine pw_goi0 w (va_runV (C := RM) (As := []) (rest := []) S (pm_c_thrown l D m0 ad cI 0 (tm + u1) nf me ((px_gv (tm + u1) G 4 sg nb).2) ((pm_gv (tm + u1) nb nb sc gl nu si wh pl).2.1) ((pm_gv (tm + u1) nb nb sc gl nu si wh pl).2.2.1) ((pm_gv (tm + u1) nb nb sc gl nu si wh pl).2.2.2.1) ((pm_gv (tm + u1) nb nb sc gl nu si wh pl).2.2.2.2.1) ((pm_gv (tm + u1) nb nb sc gl nu si wh pl).2.2.2.2.2.1) ((pm_gv (tm + u1) nb nb sc gl nu si wh pl).2.2.2.2.2.2) sm ms mg mn mk md _ ) (pw_cw (n := 0) S eL_45 iM_thrown sM_thrown iniM kM_thrown rfl rfl (by decide +kernel) ⟨by decide, by decide⟩) ⟨pw_blind, va_recv w.1 w.2.1 (ci := cM) (q0 := 0) rfl rfl, pw_pre w (w.1.sub [0] rfl)⟩ rfl rfl hl.1 rfl (lv_room (Nat.le_of_ble_eq_true rfl)) dL_law_318 ⟨hc, hs⟩) (fun r3 _ H locs hp3 w => ?_)
    have w : pw_S D (px_T cI cO ++ [(cL, .long)]) (fun q => s.heap.size ≤ q) ((pm_W m0 ad cI 0 (tm + u1) nf me ((px_gv (tm + u1) G 4 sg nb).2) ((pm_gv (tm + u1) nb nb sc gl nu si wh pl).2.1) ((pm_gv (tm + u1) nb nb sc gl nu si wh pl).2.2.1) ((pm_gv (tm + u1) nb nb sc gl nu si wh pl).2.2.2.1) ((pm_gv (tm + u1) nb nb sc gl nu si wh pl).2.2.2.2.1) ((pm_gv (tm + u1) nb nb sc gl nu si wh pl).2.2.2.2.2.1) ((pm_gv (tm + u1) nb nb sc gl nu si wh pl).2.2.2.2.2.2) sm ms mg mn mk md ++ (px_W a0 af ab o ar cI cO fd nf ((px_gv (tm + u1) G 4 sg nb).1) ((px_gv (tm + u1) G 4 sg nb).2) lw aw (tm + u1) G B ++ [(qo, .inl (cL, 1, .inr (.inl f1)))]))) s _ _ := w
    refine lv_iload hx hb dL_law_321 (lv_at hl 1 rfl) ?_
    refine lv_icmp_eq (tgt := 328) hx hb dL_law_323 (by decide) (fun _ => ?_) (fun h9 => absurd hp3 h9)
    refine lv_iload hx hb dL_law_328 (lv_at hl 1 rfl) ?_
    refine lv_if_ne (tgt := 345) hx hb dL_law_330 (by decide) (fun h9 => absurd rfl h9) (fun _ => ?_)
    refine lv_aload_n hx hb dL_law_333 rfl (lv_at hl 5 rfl) ?_
    refine lv_iconst (v := 0) hx hb dL_law_334 (by decide) ?_
    refine pw_lald S w 22 2 (x := qo) (f := f1) (n := 1) (cA := cL) rfl rfl (j := 0) (by decide) (by decide) dL_law_335 ?_
    refine lv_iload hx hb dL_law_336 (lv_at hl 0 rfl) ?_
    refine lv_i2l hx hb dL_law_338 rfl ?_
    refine W.lcmp hx hb dL_law_339 ?_
    refine lv_if_eq (tgt := 345) hx hb dL_law_340 (by decide) (fun _ => ?_) (fun h9 => absurd (by rw [hans]; exact pl_cmp _) h9)
    refine lv_goto (tgt := 583) hx hb dL_law_345 (by decide) ?_
    exact kk _ _ _ ⟨fd, nf, _, _, lw, aw, (tm + u1), G, B, 0, me, _, _, _, _, _, _, sm, ms, mg, mn, mk, md, f1, by omega, hF, t2, hLs, w⟩ (lv_sub hl [2, 3, 4, 5, 6] rfl)

set_option maxHeartbeats 4000000 in
set_option maxRecDepth 100000 in
/-- the law's case: about -/
theorem pl_k_about {p : Program} {l : Launch} {e : Env} {s : State} {m : MethodId} {below : List Frame} {meth : Method} {c : Code} {b L : Nat} {xs : Nat → Int32} {D : va_G} {a0 af ab : Nat} {o ar : Nat → Nat} {cI cO : ClassId} {m0 : Nat} {ad : Nat → Nat} {qo : Nat} {cL : ClassId} {H : Heap} {locs : List Loc} {ls : Array Slot} {cells slots i : Nat} {Q : State → Prop}
    (hl9 : l.stackTraces = false) (S : pw_Fx p m c cL_law 7 s #[Value.ref b] RL) (hX : va_X b L xs s s.heap) (hbl : b < s.heap.size) (hL : L ≤ 3072) (hi : i + 6 ≤ L) (hc : cells + 1 ≤ 601024) (hs : slots + 6 ≤ 7293034) (st : pl_St D s a0 af ab o ar cI cO m0 ad qo cL H locs) (hl : lv_has ls 7 [(0, .ref b), (1, .ref a0), (2, .ref m0), (3, .ref qo), (4, .int (nI i))])
    (kk : ∀ (H1 : Heap) (locs1 : List Loc) (ls1 : Array Slot), pl_St D s a0 af ab o ar cI cO m0 ad qo cL H1 locs1 → lv_has ls1 7 [(0, .ref b), (1, .ref a0), (2, .ref m0), (3, .ref qo), (4, .int (nI i))] → W p l e room_1 s m #[Value.ref b] below meth c H1 locs1 (cells + 1) (slots + 6) Q (F0 m 583 ls1 [])) :
    W p l e room_1 s m #[Value.ref b] below meth c H locs cells slots Q (F0 m 348 ls []) := by
  obtain ⟨fd, nf, sg, nb, lw, aw, tm, G, B, cd, me, sc, gl, nu, si, wh, pl, sm, ms, mg, mn, mk, md, f, htm, hF, hW, hLs, w⟩ := st
  obtain ⟨hx, hb, hml, hown, hts⟩ := id S
  refine lv_aload_n hx hb dL_law_348 rfl (lv_at hl 1 rfl) ?_
  refine lv_aload_n hx hb dL_law_349 rfl (lv_at hl 0 rfl) ?_
  refine lv_iload hx hb dL_law_350 (lv_at hl 4 rfl) ?_
  refine lv_iconst (v := 1) hx hb dL_law_352 (by decide) ?_
  refine lv_iadd hx hb dL_law_353 ?_
  refine pw_top (y := nI (i + 1)) (nI_add i 1) ?_
  refine pw_sld S w hX hbl (j := (i + 1)) (by omega) hL dL_law_354 ?_
  refine lv_aload_n hx hb dL_law_355 rfl (lv_at hl 3 rfl) ?_
  have w1 : pw_S D (px_T cI cO ++ [(cL, .long)]) (fun q => s.heap.size ≤ q) (pm_W m0 ad cI cd tm nf me nb sc gl nu si wh pl sm ms mg mn mk md ++ ((px_W a0 af ab o ar cI cO fd nf sg nb lw aw tm G B ++ [(qo, .inl (cL, 1, .inr (.inl f)))]) ++ [])) s _ _ := w.to (by rw [List.append_nil])
  refine pw_goi w1 (vx_runSW (As := [.ref a0, .int (xs (i + 1)), .ref qo]) (rest := []) S (pl_c_about l D a0 af ab o ar cI cO fd nf sg nb lw aw tm G B _ qo cL f hl9 hW.2.1.2.1 (xs (i + 1))) (pw_cW (n := 3) S eL_57 tL_about iniL kL_about rfl rfl (by decide +kernel) ⟨by decide, by decide⟩) ⟨pw_blind, pw_pre w1 w1.1⟩ rfl rfl hl.1 rfl (lv_room (Nat.le_of_ble_eq_true rfl)) dL_law_356 ⟨hc, hs⟩) (fun k u H locs hp w => ?_)
  clear w1
  obtain ⟨x9, f1⟩ := u
  cases x9 with
  | none =>
    have w : pw_S D (px_T cI cO ++ [(cL, .long)]) (fun q => s.heap.size ≤ q) (pm_W m0 ad cI cd tm nf me nb sc gl nu si wh pl sm ms mg mn mk md ++ ((px_W a0 af ab o ar cI cO fd nf sg nb lw aw tm G B ++ [(qo, .inl (cL, 1, .inr (.inl f1)))]) ++ [])) s _ _ := w
    have w : pw_S D (px_T cI cO ++ [(cL, .long)]) (fun q => s.heap.size ≤ q) (pm_W m0 ad cI cd tm nf me nb sc gl nu si wh pl sm ms mg mn mk md ++ (px_W a0 af ab o ar cI cO fd nf sg nb lw aw tm G B ++ [(qo, .inl (cL, 1, .inr (.inl f1)))])) s _ _ := w.to (by rw [List.append_nil])
    have hp : (k = 1 ∧ ¬ (0 ≤ (xs (i + 1)).toInt ∧ (xs (i + 1)).toInt ≤ 3)) ∨ (k = 2 ∧ (0 ≤ (xs (i + 1)).toInt ∧ (xs (i + 1)).toInt ≤ 3) ∧ aw = 0) := hp
    have hk0 : ¬ k = 0 := by rcases hp with ⟨rfl, -⟩ | ⟨rfl, -⟩ <;> decide
    refine lv_istore (lv' := [(5, .int k), (0, .ref b), (1, .ref a0), (2, .ref m0), (3, .ref qo), (4, .int (nI i))]) hx hb dL_law_359 hl (by decide) rfl (fun ls hl => ?_)
    refine lv_aload_n hx hb dL_law_361 rfl (lv_at hl 3 rfl) ?_
    refine lv_aload_n hx hb dL_law_362 rfl (lv_at hl 1 rfl) ?_
    refine lv_iload hx hb dL_law_363 (lv_at hl 5 rfl) ?_
    refine lv_iconst (v := 1) hx hb dL_law_365 (by decide) ?_
    refine lv_iadd hx hb dL_law_366 ?_
    refine pw_top (y := nI (i + 1)) (nI_add i 1) ?_
    refine pw_sld S w hX hbl (j := (i + 1)) (by omega) hL dL_law_367 ?_
    have w : pw_S D (px_T cI cO ++ [(cL, .long)]) (fun q => s.heap.size ≤ q) ([] ++ (pm_W m0 ad cI cd tm nf me nb sc gl nu si wh pl sm ms mg mn mk md ++ (px_W a0 af ab o ar cI cO fd nf sg nb lw aw tm G B ++ [(qo, .inl (cL, 1, .inr (.inl f1)))]))) s _ _ := w
    refine pw_goi0 w (va_runV (C := RM) (As := [.int (xs (i + 1))]) (rest := []) S (pm_c_about l D m0 ad cI cd tm nf me nb sc gl nu si wh pl sm ms mg mn mk md _ (xs (i + 1))) (pw_cw (n := 1) S eL_59 iM_about sM_about iniM kM_about rfl rfl (by decide +kernel) ⟨by decide, by decide⟩) ⟨pw_blind, va_recv w.1 w.2.1 (ci := cM) (q0 := 0) rfl rfl, pw_pre w (w.1.sub [0] rfl)⟩ rfl rfl hl.1 rfl (lv_room (Nat.le_of_ble_eq_true rfl)) dL_law_368 ⟨hc, hs⟩) (fun r2 u2 H locs hp2 w => ?_)
    have key : u2 = k := by
      rcases hp with ⟨rfl, h1⟩ | ⟨rfl, h1, h2⟩ <;> rcases hp2 with ⟨h3, h4⟩ | ⟨h3, h4, h5⟩ | ⟨h3, h4, h5, h6⟩
      · exact h3
      · exact absurd h4 h1
      · exact absurd h4 h1
      · exact absurd h1 h4
      · exact h3
      · exact absurd (hLs.1.symm.trans h2) h5
    have key := key.symm
    subst key
    refine lv_istore (lv' := [(6, .int r2), (5, .int k), (0, .ref b), (1, .ref a0), (2, .ref m0), (3, .ref qo), (4, .int (nI i))]) hx hb dL_law_371 hl (by decide) rfl (fun ls hl => ?_)
    refine lv_aload_n hx hb dL_law_373 rfl (lv_at hl 4 rfl) ?_
    have w : pw_S D (px_T cI cO ++ [(cL, .long)]) (fun q => s.heap.size ≤ q) ([] ++ (pm_W m0 ad cI k tm nf me nb sc gl nu si wh pl sm ms mg mn mk md ++ (px_W a0 af ab o ar cI cO fd nf sg nb lw aw tm G B ++ [(qo, .inl (cL, 1, .inr (.inl f1)))]))) s _ _ := w
    refine pw_goi0 w (va_runV (C := RM) (As := []) (rest := []) S (pm_c_thrown l D m0 ad cI k tm nf me nb sc gl nu si wh pl sm ms mg mn mk md _ ) (pw_cw (n := 0) S eL_45 iM_thrown sM_thrown iniM kM_thrown rfl rfl (by decide +kernel) ⟨by decide, by decide⟩) ⟨pw_blind, va_recv w.1 w.2.1 (ci := cM) (q0 := 0) rfl rfl, pw_pre w (w.1.sub [0] rfl)⟩ rfl rfl hl.1 rfl (lv_room (Nat.le_of_ble_eq_true rfl)) dL_law_374 ⟨hc, hs⟩) (fun r3 _ H locs hp3 w => ?_)
    have w : pw_S D (px_T cI cO ++ [(cL, .long)]) (fun q => s.heap.size ≤ q) ((pm_W m0 ad cI k tm nf me nb sc gl nu si wh pl sm ms mg mn mk md ++ (px_W a0 af ab o ar cI cO fd nf sg nb lw aw tm G B ++ [(qo, .inl (cL, 1, .inr (.inl f1)))]))) s _ _ := w
    refine lv_iload hx hb dL_law_377 (lv_at hl 1 rfl) ?_
    refine lv_icmp_eq (tgt := 384) hx hb dL_law_379 (by decide) (fun _ => ?_) (fun h9 => absurd hp3 h9)
    refine lv_iload hx hb dL_law_384 (lv_at hl 1 rfl) ?_
    refine lv_if_ne (tgt := 401) hx hb dL_law_386 (by decide) (fun _ => ?_) (fun h9 => absurd h9 hk0)
    refine lv_goto (tgt := 583) hx hb dL_law_401 (by decide) ?_
    exact kk _ _ _ ⟨fd, nf, sg, nb, lw, aw, tm, G, B, k, me, sc, gl, nu, si, wh, pl, sm, ms, mg, mn, mk, md, f1, htm, hF, hW, hLs, w⟩ (lv_sub hl [2, 3, 4, 5, 6] rfl)
  | some u1 =>
    obtain ⟨rfl, r, ⟨q1, q2, q3⟩, hf1⟩ := hp
    have w : pw_S D (px_T cI cO ++ [(cL, .long)]) (fun q => s.heap.size ≤ q) (pm_W m0 ad cI cd tm nf me nb sc gl nu si wh pl sm ms mg mn mk md ++ ((px_W a0 af ab o ar cI cO fd nf sg nb lw aw tm G B ++ [(qo, .inl (cL, 1, .inr (.inl f1)))]) ++ [])) s _ _ := w
    have w : pw_S D (px_T cI cO ++ [(cL, .long)]) (fun q => s.heap.size ≤ q) (pm_W m0 ad cI cd tm nf me nb sc gl nu si wh pl sm ms mg mn mk md ++ (px_W a0 af ab o ar cI cO fd nf sg nb lw aw tm G B ++ [(qo, .inl (cL, 1, .inr (.inl f1)))])) s _ _ := w.to (by rw [List.append_nil])
    dsimp only at hf1
    refine lv_istore (lv' := [(5, .int 0), (0, .ref b), (1, .ref a0), (2, .ref m0), (3, .ref qo), (4, .int (nI i))]) hx hb dL_law_359 hl (by decide) rfl (fun ls hl => ?_)
    refine lv_aload_n hx hb dL_law_361 rfl (lv_at hl 3 rfl) ?_
    refine lv_aload_n hx hb dL_law_362 rfl (lv_at hl 1 rfl) ?_
    refine lv_iload hx hb dL_law_363 (lv_at hl 5 rfl) ?_
    refine lv_iconst (v := 1) hx hb dL_law_365 (by decide) ?_
    refine lv_iadd hx hb dL_law_366 ?_
    refine pw_top (y := nI (i + 1)) (nI_add i 1) ?_
    refine pw_sld S w hX hbl (j := (i + 1)) (by omega) hL dL_law_367 ?_
    have w : pw_S D (px_T cI cO ++ [(cL, .long)]) (fun q => s.heap.size ≤ q) ([] ++ (pm_W m0 ad cI cd tm nf me nb sc gl nu si wh pl sm ms mg mn mk md ++ (px_W a0 af ab o ar cI cO fd nf sg nb lw aw tm G B ++ [(qo, .inl (cL, 1, .inr (.inl f1)))]))) s _ _ := w
    refine pw_goi0 w (va_runV (C := RM) (As := [.int (xs (i + 1))]) (rest := []) S (pm_c_about l D m0 ad cI cd tm nf me nb sc gl nu si wh pl sm ms mg mn mk md _ (xs (i + 1))) (pw_cw (n := 1) S eL_59 iM_about sM_about iniM kM_about rfl rfl (by decide +kernel) ⟨by decide, by decide⟩) ⟨pw_blind, va_recv w.1 w.2.1 (ci := cM) (q0 := 0) rfl rfl, pw_pre w (w.1.sub [0] rfl)⟩ rfl rfl hl.1 rfl (lv_room (Nat.le_of_ble_eq_true rfl)) dL_law_368 ⟨hc, hs⟩) (fun r2 u2 H locs hp2 w => ?_)
    obtain ⟨z, l1, l2, l3, l4, l5, l6, l7⟩ := hLs.2 q2
    have key : u2 = 0 ∧ r2 = r := by
      rcases hp2 with ⟨h3, h4⟩ | ⟨h3, h4, h5⟩ | ⟨h3, h4, h5, h6⟩
      · exact absurd q1 h4
      · exact absurd (hLs.1.trans h5) q2
      · refine ⟨h3, ?_⟩
        rw [h6, q3]
        unfold px_ab
        rw [l1, l2, l3, l4, l5]
    obtain ⟨rfl, hr2⟩ := key
    have hans : f1 0 = r2.toInt64 := by rw [hf1, hr2]
    refine lv_istore (lv' := [(6, .int r2), (5, .int 0), (0, .ref b), (1, .ref a0), (2, .ref m0), (3, .ref qo), (4, .int (nI i))]) hx hb dL_law_371 hl (by decide) rfl (fun ls hl => ?_)
    refine lv_aload_n hx hb dL_law_373 rfl (lv_at hl 4 rfl) ?_
    have w : pw_S D (px_T cI cO ++ [(cL, .long)]) (fun q => s.heap.size ≤ q) ([] ++ (pm_W m0 ad cI 0 tm nf me nb sc gl nu si wh pl sm ms mg mn mk md ++ (px_W a0 af ab o ar cI cO fd nf sg nb lw aw tm G B ++ [(qo, .inl (cL, 1, .inr (.inl f1)))]))) s _ _ := w
    refine pw_goi0 w (va_runV (C := RM) (As := []) (rest := []) S (pm_c_thrown l D m0 ad cI 0 tm nf me nb sc gl nu si wh pl sm ms mg mn mk md _ ) (pw_cw (n := 0) S eL_45 iM_thrown sM_thrown iniM kM_thrown rfl rfl (by decide +kernel) ⟨by decide, by decide⟩) ⟨pw_blind, va_recv w.1 w.2.1 (ci := cM) (q0 := 0) rfl rfl, pw_pre w (w.1.sub [0] rfl)⟩ rfl rfl hl.1 rfl (lv_room (Nat.le_of_ble_eq_true rfl)) dL_law_374 ⟨hc, hs⟩) (fun r3 _ H locs hp3 w => ?_)
    have w : pw_S D (px_T cI cO ++ [(cL, .long)]) (fun q => s.heap.size ≤ q) ((pm_W m0 ad cI 0 tm nf me nb sc gl nu si wh pl sm ms mg mn mk md ++ (px_W a0 af ab o ar cI cO fd nf sg nb lw aw tm G B ++ [(qo, .inl (cL, 1, .inr (.inl f1)))]))) s _ _ := w
    refine lv_iload hx hb dL_law_377 (lv_at hl 1 rfl) ?_
    refine lv_icmp_eq (tgt := 384) hx hb dL_law_379 (by decide) (fun _ => ?_) (fun h9 => absurd hp3 h9)
    refine lv_iload hx hb dL_law_384 (lv_at hl 1 rfl) ?_
    refine lv_if_ne (tgt := 401) hx hb dL_law_386 (by decide) (fun h9 => absurd rfl h9) (fun _ => ?_)
    refine lv_aload_n hx hb dL_law_389 rfl (lv_at hl 5 rfl) ?_
    refine lv_iconst (v := 0) hx hb dL_law_390 (by decide) ?_
    refine pw_lald S w 22 2 (x := qo) (f := f1) (n := 1) (cA := cL) rfl rfl (j := 0) (by decide) (by decide) dL_law_391 ?_
    refine lv_iload hx hb dL_law_392 (lv_at hl 0 rfl) ?_
    refine lv_i2l hx hb dL_law_394 rfl ?_
    refine W.lcmp hx hb dL_law_395 ?_
    refine lv_if_eq (tgt := 401) hx hb dL_law_396 (by decide) (fun _ => ?_) (fun h9 => absurd (by rw [hans]; exact pl_cmp _) h9)
    refine lv_goto (tgt := 583) hx hb dL_law_401 (by decide) ?_
    exact kk _ _ _ ⟨fd, nf, sg, nb, lw, aw, tm, G, B, 0, me, sc, gl, nu, si, wh, pl, sm, ms, mg, mn, mk, md, f1, htm, hF, hW, hLs, w⟩ (lv_sub hl [2, 3, 4, 5, 6] rfl)

set_option maxHeartbeats 4000000 in
set_option maxRecDepth 100000 in
/-- the law's case: byteAt -/
theorem pl_k_byteAt {p : Program} {l : Launch} {e : Env} {s : State} {m : MethodId} {below : List Frame} {meth : Method} {c : Code} {b L : Nat} {xs : Nat → Int32} {D : va_G} {a0 af ab : Nat} {o ar : Nat → Nat} {cI cO : ClassId} {m0 : Nat} {ad : Nat → Nat} {qo : Nat} {cL : ClassId} {H : Heap} {locs : List Loc} {ls : Array Slot} {cells slots i : Nat} {Q : State → Prop}
    (hl9 : l.stackTraces = false) (S : pw_Fx p m c cL_law 7 s #[Value.ref b] RL) (hX : va_X b L xs s s.heap) (hbl : b < s.heap.size) (hL : L ≤ 3072) (hi : i + 6 ≤ L) (hc : cells + 1 ≤ 601024) (hs : slots + 6 ≤ 7293034) (st : pl_St D s a0 af ab o ar cI cO m0 ad qo cL H locs) (hl : lv_has ls 7 [(0, .ref b), (1, .ref a0), (2, .ref m0), (3, .ref qo), (4, .int (nI i))])
    (kk : ∀ (H1 : Heap) (locs1 : List Loc) (ls1 : Array Slot), pl_St D s a0 af ab o ar cI cO m0 ad qo cL H1 locs1 → lv_has ls1 7 [(0, .ref b), (1, .ref a0), (2, .ref m0), (3, .ref qo), (4, .int (nI i))] → W p l e room_1 s m #[Value.ref b] below meth c H1 locs1 (cells + 1) (slots + 6) Q (F0 m 583 ls1 [])) :
    W p l e room_1 s m #[Value.ref b] below meth c H locs cells slots Q (F0 m 404 ls []) := by
  obtain ⟨fd, nf, sg, nb, lw, aw, tm, G, B, cd, me, sc, gl, nu, si, wh, pl, sm, ms, mg, mn, mk, md, f, htm, hF, hW, hLs, w⟩ := st
  obtain ⟨hx, hb, hml, hown, hts⟩ := id S
  obtain ⟨z, hz0, hzX, hzM, hzB⟩ : ∃ z : Nat, z ≤ 1480 ∧ (¬ aw = 0 → (G lw).2.2.2.1 = nI z ∧ z ≤ 1480) ∧ (¬ sm = 0 → mk = nI z ∧ z ≤ 1480) ∧ (¬ aw = 0 → ∀ i9, i9 < z → B lw i9 = md i9) := by
    by_cases ha : aw = 0
    · exact ⟨0, by omega, fun h => absurd ha h, fun h => absurd (hLs.1.symm.trans ha) h, fun h => absurd ha h⟩
    · obtain ⟨z, l1, l2, l3, l4, l5, l6, l7⟩ := hLs.2 ha
      exact ⟨z, l6, fun _ => ⟨l4, l6⟩, fun _ => ⟨l5, l6⟩, fun _ => l7⟩
  refine lv_aload_n hx hb dL_law_404 rfl (lv_at hl 1 rfl) ?_
  refine lv_aload_n hx hb dL_law_405 rfl (lv_at hl 0 rfl) ?_
  refine lv_iload hx hb dL_law_406 (lv_at hl 4 rfl) ?_
  refine lv_iconst (v := 1) hx hb dL_law_408 (by decide) ?_
  refine lv_iadd hx hb dL_law_409 ?_
  refine pw_top (y := nI (i + 1)) (nI_add i 1) ?_
  refine pw_sld S w hX hbl (j := (i + 1)) (by omega) hL dL_law_410 ?_
  refine lv_aload_n hx hb dL_law_411 rfl (lv_at hl 3 rfl) ?_
  have w1 : pw_S D (px_T cI cO ++ [(cL, .long)]) (fun q => s.heap.size ≤ q) (pm_W m0 ad cI cd tm nf me nb sc gl nu si wh pl sm ms mg mn mk md ++ ((px_W a0 af ab o ar cI cO fd nf sg nb lw aw tm G B ++ [(qo, .inl (cL, 1, .inr (.inl f)))]) ++ [])) s _ _ := w.to (by rw [List.append_nil])
  refine pw_goi w1 (vx_runSW (As := [.ref a0, .int (xs (i + 1)), .ref qo]) (rest := []) S (pl_c_byteAt l D a0 af ab o ar cI cO fd nf sg nb lw aw tm G B _ qo cL f hl9 hW.2.1.2.1 z hzX (xs (i + 1))) (pw_cW (n := 3) S eL_60 tL_byteAt iniL kL_byteAt rfl rfl (by decide +kernel) ⟨by decide, by decide⟩) ⟨pw_blind, pw_pre w1 w1.1⟩ rfl rfl hl.1 rfl (lv_room (Nat.le_of_ble_eq_true rfl)) dL_law_412 ⟨hc, hs⟩) (fun k u H locs hp w => ?_)
  clear w1
  obtain ⟨x9, f1⟩ := u
  cases x9 with
  | none =>
    have w : pw_S D (px_T cI cO ++ [(cL, .long)]) (fun q => s.heap.size ≤ q) (pm_W m0 ad cI cd tm nf me nb sc gl nu si wh pl sm ms mg mn mk md ++ ((px_W a0 af ab o ar cI cO fd nf sg nb lw aw tm G B ++ [(qo, .inl (cL, 1, .inr (.inl f1)))]) ++ [])) s _ _ := w
    have w : pw_S D (px_T cI cO ++ [(cL, .long)]) (fun q => s.heap.size ≤ q) (pm_W m0 ad cI cd tm nf me nb sc gl nu si wh pl sm ms mg mn mk md ++ (px_W a0 af ab o ar cI cO fd nf sg nb lw aw tm G B ++ [(qo, .inl (cL, 1, .inr (.inl f1)))])) s _ _ := w.to (by rw [List.append_nil])
    have hp : (k = 1 ∧ aw = 0) ∨ (k = 2 ∧ ¬ aw = 0 ∧ ¬ (0 ≤ (xs (i + 1)).toInt ∧ (xs (i + 1)).toInt < z)) := hp
    have hk0 : ¬ k = 0 := by rcases hp with ⟨rfl, -⟩ | ⟨rfl, -⟩ <;> decide
    refine lv_istore (lv' := [(5, .int k), (0, .ref b), (1, .ref a0), (2, .ref m0), (3, .ref qo), (4, .int (nI i))]) hx hb dL_law_415 hl (by decide) rfl (fun ls hl => ?_)
    refine lv_aload_n hx hb dL_law_417 rfl (lv_at hl 3 rfl) ?_
    refine lv_aload_n hx hb dL_law_418 rfl (lv_at hl 1 rfl) ?_
    refine lv_iload hx hb dL_law_419 (lv_at hl 5 rfl) ?_
    refine lv_iconst (v := 1) hx hb dL_law_421 (by decide) ?_
    refine lv_iadd hx hb dL_law_422 ?_
    refine pw_top (y := nI (i + 1)) (nI_add i 1) ?_
    refine pw_sld S w hX hbl (j := (i + 1)) (by omega) hL dL_law_423 ?_
    have w : pw_S D (px_T cI cO ++ [(cL, .long)]) (fun q => s.heap.size ≤ q) ([] ++ (pm_W m0 ad cI cd tm nf me nb sc gl nu si wh pl sm ms mg mn mk md ++ (px_W a0 af ab o ar cI cO fd nf sg nb lw aw tm G B ++ [(qo, .inl (cL, 1, .inr (.inl f1)))]))) s _ _ := w
    refine pw_goi0 w (va_runV (C := RM) (As := [.int (xs (i + 1))]) (rest := []) S (pm_c_byteAt l D m0 ad cI cd tm nf me nb sc gl nu si wh pl sm ms mg mn mk md _ z hzM (xs (i + 1))) (pw_cw (n := 1) S eL_62 iM_byteAt sM_byteAt iniM kM_byteAt rfl rfl (by decide +kernel) ⟨by decide, by decide⟩) ⟨pw_blind, va_recv w.1 w.2.1 (ci := cM) (q0 := 0) rfl rfl, pw_pre w (w.1.sub [0] rfl)⟩ rfl rfl hl.1 rfl (lv_room (Nat.le_of_ble_eq_true rfl)) dL_law_424 ⟨hc, hs⟩) (fun r2 u2 H locs hp2 w => ?_)
    have key : u2 = k := by
      rcases hp with ⟨rfl, h1⟩ | ⟨rfl, h1, h2⟩ <;> rcases hp2 with ⟨h3, h4⟩ | ⟨h3, h4, h5⟩ | ⟨h3, h4, i9, g1, g2, g3⟩
      · exact h3
      · exact absurd (hLs.1.symm.trans h1) h4
      · exact absurd (hLs.1.symm.trans h1) h4
      · exact absurd (hLs.1.trans h4) h1
      · exact h3
      · exact absurd (by rw [g2, nI_toInt (by omega)]; omega) h2
    have key := key.symm
    subst key
    refine lv_istore (lv' := [(6, .int r2), (5, .int k), (0, .ref b), (1, .ref a0), (2, .ref m0), (3, .ref qo), (4, .int (nI i))]) hx hb dL_law_427 hl (by decide) rfl (fun ls hl => ?_)
    refine lv_aload_n hx hb dL_law_429 rfl (lv_at hl 4 rfl) ?_
    have w : pw_S D (px_T cI cO ++ [(cL, .long)]) (fun q => s.heap.size ≤ q) ([] ++ (pm_W m0 ad cI k tm nf me nb sc gl nu si wh pl sm ms mg mn mk md ++ (px_W a0 af ab o ar cI cO fd nf sg nb lw aw tm G B ++ [(qo, .inl (cL, 1, .inr (.inl f1)))]))) s _ _ := w
    refine pw_goi0 w (va_runV (C := RM) (As := []) (rest := []) S (pm_c_thrown l D m0 ad cI k tm nf me nb sc gl nu si wh pl sm ms mg mn mk md _ ) (pw_cw (n := 0) S eL_45 iM_thrown sM_thrown iniM kM_thrown rfl rfl (by decide +kernel) ⟨by decide, by decide⟩) ⟨pw_blind, va_recv w.1 w.2.1 (ci := cM) (q0 := 0) rfl rfl, pw_pre w (w.1.sub [0] rfl)⟩ rfl rfl hl.1 rfl (lv_room (Nat.le_of_ble_eq_true rfl)) dL_law_430 ⟨hc, hs⟩) (fun r3 _ H locs hp3 w => ?_)
    have w : pw_S D (px_T cI cO ++ [(cL, .long)]) (fun q => s.heap.size ≤ q) ((pm_W m0 ad cI k tm nf me nb sc gl nu si wh pl sm ms mg mn mk md ++ (px_W a0 af ab o ar cI cO fd nf sg nb lw aw tm G B ++ [(qo, .inl (cL, 1, .inr (.inl f1)))]))) s _ _ := w
    refine lv_iload hx hb dL_law_433 (lv_at hl 1 rfl) ?_
    refine lv_icmp_eq (tgt := 440) hx hb dL_law_435 (by decide) (fun _ => ?_) (fun h9 => absurd hp3 h9)
    refine lv_iload hx hb dL_law_440 (lv_at hl 1 rfl) ?_
    refine lv_if_ne (tgt := 457) hx hb dL_law_442 (by decide) (fun _ => ?_) (fun h9 => absurd h9 hk0)
    refine lv_goto (tgt := 583) hx hb dL_law_457 (by decide) ?_
    exact kk _ _ _ ⟨fd, nf, sg, nb, lw, aw, tm, G, B, k, me, sc, gl, nu, si, wh, pl, sm, ms, mg, mn, mk, md, f1, htm, hF, hW, hLs, w⟩ (lv_sub hl [2, 3, 4, 5, 6] rfl)
  | some u1 =>
    obtain ⟨rfl, r, ⟨q1, i9, q2, q3, q4⟩, hf1⟩ := hp
    have w : pw_S D (px_T cI cO ++ [(cL, .long)]) (fun q => s.heap.size ≤ q) (pm_W m0 ad cI cd tm nf me nb sc gl nu si wh pl sm ms mg mn mk md ++ ((px_W a0 af ab o ar cI cO fd nf sg nb lw aw tm G B ++ [(qo, .inl (cL, 1, .inr (.inl f1)))]) ++ [])) s _ _ := w
    have w : pw_S D (px_T cI cO ++ [(cL, .long)]) (fun q => s.heap.size ≤ q) (pm_W m0 ad cI cd tm nf me nb sc gl nu si wh pl sm ms mg mn mk md ++ (px_W a0 af ab o ar cI cO fd nf sg nb lw aw tm G B ++ [(qo, .inl (cL, 1, .inr (.inl f1)))])) s _ _ := w.to (by rw [List.append_nil])
    dsimp only at hf1
    refine lv_istore (lv' := [(5, .int 0), (0, .ref b), (1, .ref a0), (2, .ref m0), (3, .ref qo), (4, .int (nI i))]) hx hb dL_law_415 hl (by decide) rfl (fun ls hl => ?_)
    refine lv_aload_n hx hb dL_law_417 rfl (lv_at hl 3 rfl) ?_
    refine lv_aload_n hx hb dL_law_418 rfl (lv_at hl 1 rfl) ?_
    refine lv_iload hx hb dL_law_419 (lv_at hl 5 rfl) ?_
    refine lv_iconst (v := 1) hx hb dL_law_421 (by decide) ?_
    refine lv_iadd hx hb dL_law_422 ?_
    refine pw_top (y := nI (i + 1)) (nI_add i 1) ?_
    refine pw_sld S w hX hbl (j := (i + 1)) (by omega) hL dL_law_423 ?_
    have w : pw_S D (px_T cI cO ++ [(cL, .long)]) (fun q => s.heap.size ≤ q) ([] ++ (pm_W m0 ad cI cd tm nf me nb sc gl nu si wh pl sm ms mg mn mk md ++ (px_W a0 af ab o ar cI cO fd nf sg nb lw aw tm G B ++ [(qo, .inl (cL, 1, .inr (.inl f1)))]))) s _ _ := w
    refine pw_goi0 w (va_runV (C := RM) (As := [.int (xs (i + 1))]) (rest := []) S (pm_c_byteAt l D m0 ad cI cd tm nf me nb sc gl nu si wh pl sm ms mg mn mk md _ z hzM (xs (i + 1))) (pw_cw (n := 1) S eL_62 iM_byteAt sM_byteAt iniM kM_byteAt rfl rfl (by decide +kernel) ⟨by decide, by decide⟩) ⟨pw_blind, va_recv w.1 w.2.1 (ci := cM) (q0 := 0) rfl rfl, pw_pre w (w.1.sub [0] rfl)⟩ rfl rfl hl.1 rfl (lv_room (Nat.le_of_ble_eq_true rfl)) dL_law_424 ⟨hc, hs⟩) (fun r2 u2 H locs hp2 w => ?_)
    have hni : (xs (i + 1)).toInt = i9 := by rw [q3, nI_toInt (by omega)]
    have key : u2 = 0 ∧ r2 = r := by
      rcases hp2 with ⟨h3, h4⟩ | ⟨h3, h4, h5⟩ | ⟨h3, h4, i8, g1, g2, g3⟩
      · exact absurd (hLs.1.trans h4) q1
      · exact absurd (by rw [hni]; omega) h5
      · have e9 : i8 = i9 := (nI_eq (by omega) (by omega)).mp (g2.symm.trans q3)
        subst e9
        exact ⟨h3, by rw [g3, q4, hzB q1 _ q2]⟩
    obtain ⟨rfl, hr2⟩ := key
    have hans : f1 0 = r2.toInt64 := by rw [hf1, hr2]
    refine lv_istore (lv' := [(6, .int r2), (5, .int 0), (0, .ref b), (1, .ref a0), (2, .ref m0), (3, .ref qo), (4, .int (nI i))]) hx hb dL_law_427 hl (by decide) rfl (fun ls hl => ?_)
    refine lv_aload_n hx hb dL_law_429 rfl (lv_at hl 4 rfl) ?_
    have w : pw_S D (px_T cI cO ++ [(cL, .long)]) (fun q => s.heap.size ≤ q) ([] ++ (pm_W m0 ad cI 0 tm nf me nb sc gl nu si wh pl sm ms mg mn mk md ++ (px_W a0 af ab o ar cI cO fd nf sg nb lw aw tm G B ++ [(qo, .inl (cL, 1, .inr (.inl f1)))]))) s _ _ := w
    refine pw_goi0 w (va_runV (C := RM) (As := []) (rest := []) S (pm_c_thrown l D m0 ad cI 0 tm nf me nb sc gl nu si wh pl sm ms mg mn mk md _ ) (pw_cw (n := 0) S eL_45 iM_thrown sM_thrown iniM kM_thrown rfl rfl (by decide +kernel) ⟨by decide, by decide⟩) ⟨pw_blind, va_recv w.1 w.2.1 (ci := cM) (q0 := 0) rfl rfl, pw_pre w (w.1.sub [0] rfl)⟩ rfl rfl hl.1 rfl (lv_room (Nat.le_of_ble_eq_true rfl)) dL_law_430 ⟨hc, hs⟩) (fun r3 _ H locs hp3 w => ?_)
    have w : pw_S D (px_T cI cO ++ [(cL, .long)]) (fun q => s.heap.size ≤ q) ((pm_W m0 ad cI 0 tm nf me nb sc gl nu si wh pl sm ms mg mn mk md ++ (px_W a0 af ab o ar cI cO fd nf sg nb lw aw tm G B ++ [(qo, .inl (cL, 1, .inr (.inl f1)))]))) s _ _ := w
    refine lv_iload hx hb dL_law_433 (lv_at hl 1 rfl) ?_
    refine lv_icmp_eq (tgt := 440) hx hb dL_law_435 (by decide) (fun _ => ?_) (fun h9 => absurd hp3 h9)
    refine lv_iload hx hb dL_law_440 (lv_at hl 1 rfl) ?_
    refine lv_if_ne (tgt := 457) hx hb dL_law_442 (by decide) (fun h9 => absurd rfl h9) (fun _ => ?_)
    refine lv_aload_n hx hb dL_law_445 rfl (lv_at hl 5 rfl) ?_
    refine lv_iconst (v := 0) hx hb dL_law_446 (by decide) ?_
    refine pw_lald S w 22 2 (x := qo) (f := f1) (n := 1) (cA := cL) rfl rfl (j := 0) (by decide) (by decide) dL_law_447 ?_
    refine lv_iload hx hb dL_law_448 (lv_at hl 0 rfl) ?_
    refine lv_i2l hx hb dL_law_450 rfl ?_
    refine W.lcmp hx hb dL_law_451 ?_
    refine lv_if_eq (tgt := 457) hx hb dL_law_452 (by decide) (fun _ => ?_) (fun h9 => absurd (by rw [hans]; exact pl_cmp _) h9)
    refine lv_goto (tgt := 583) hx hb dL_law_457 (by decide) ?_
    exact kk _ _ _ ⟨fd, nf, sg, nb, lw, aw, tm, G, B, 0, me, sc, gl, nu, si, wh, pl, sm, ms, mg, mn, mk, md, f1, htm, hF, hW, hLs, w⟩ (lv_sub hl [2, 3, 4, 5, 6] rfl)
end
section
set_option maxHeartbeats 4000000 in
set_option maxRecDepth 100000 in
/-- the law's case: missing -/
theorem pl_k_missing {p : Program} {l : Launch} {e : Env} {s : State} {m : MethodId} {below : List Frame} {meth : Method} {c : Code} {b L : Nat} {xs : Nat → Int32} {D : va_G} {a0 af ab : Nat} {o ar : Nat → Nat} {cI cO : ClassId} {m0 : Nat} {ad : Nat → Nat} {qo : Nat} {cL : ClassId} {H : Heap} {locs : List Loc} {ls : Array Slot} {cells slots i : Nat} {Q : State → Prop}
    (hl9 : l.stackTraces = false) (S : pw_Fx p m c cL_law 7 s #[Value.ref b] RL) (hX : va_X b L xs s s.heap) (hbl : b < s.heap.size) (hL : L ≤ 3072) (hi : i + 6 ≤ L) (hc : cells + 1 ≤ 601024) (hs : slots + 6 ≤ 7293034) (st : pl_St D s a0 af ab o ar cI cO m0 ad qo cL H locs) (hl : lv_has ls 7 [(0, .ref b), (1, .ref a0), (2, .ref m0), (3, .ref qo), (4, .int (nI i))])
    (kk : ∀ (H1 : Heap) (locs1 : List Loc) (ls1 : Array Slot), pl_St D s a0 af ab o ar cI cO m0 ad qo cL H1 locs1 → lv_has ls1 7 [(0, .ref b), (1, .ref a0), (2, .ref m0), (3, .ref qo), (4, .int (nI i))] → W p l e room_1 s m #[Value.ref b] below meth c H1 locs1 (cells + 1) (slots + 6) Q (F0 m 583 ls1 [])) :
    W p l e room_1 s m #[Value.ref b] below meth c H locs cells slots Q (F0 m 460 ls []) := by
  obtain ⟨fd, nf, sg, nb, lw, aw, tm, G, B, cd, me, sc, gl, nu, si, wh, pl, sm, ms, mg, mn, mk, md, f, htm, hF, hW, hLs, w⟩ := st
  obtain ⟨hx, hb, hml, hown, hts⟩ := id S
  refine lv_aload_n hx hb dL_law_460 rfl (lv_at hl 1 rfl) ?_
  refine lv_aload_n hx hb dL_law_461 rfl (lv_at hl 0 rfl) ?_
  refine lv_iload hx hb dL_law_462 (lv_at hl 4 rfl) ?_
  refine lv_iconst (v := 1) hx hb dL_law_464 (by decide) ?_
  refine lv_iadd hx hb dL_law_465 ?_
  refine pw_top (y := nI (i + 1)) (nI_add i 1) ?_
  refine pw_sld S w hX hbl (j := (i + 1)) (by omega) hL dL_law_466 ?_
  refine lv_aload_n hx hb dL_law_467 rfl (lv_at hl 0 rfl) ?_
  refine lv_iload hx hb dL_law_468 (lv_at hl 4 rfl) ?_
  refine lv_iconst (v := 2) hx hb dL_law_470 (by decide) ?_
  refine lv_iadd hx hb dL_law_471 ?_
  refine pw_top (y := nI (i + 2)) (nI_add i 2) ?_
  refine pw_sld S w hX hbl (j := (i + 2)) (by omega) hL dL_law_472 ?_
  refine lv_aload_n hx hb dL_law_473 rfl (lv_at hl 0 rfl) ?_
  refine lv_iload hx hb dL_law_474 (lv_at hl 4 rfl) ?_
  refine lv_iconst (v := 3) hx hb dL_law_476 (by decide) ?_
  refine lv_iadd hx hb dL_law_477 ?_
  refine pw_top (y := nI (i + 3)) (nI_add i 3) ?_
  refine pw_sld S w hX hbl (j := (i + 3)) (by omega) hL dL_law_478 ?_
  refine pw_goi0 w (va_runV (C := RP) (As := [.int (xs (i + 1)), .int (xs (i + 2)), .int (xs (i + 3))]) (rest := []) S (px_c_missing l D a0 af ab o ar cI cO fd nf sg nb lw aw tm G B _ hW.1 hW.2.1.1 (xs (i + 1)) (xs (i + 2)) (xs (i + 3))) (pw_cw (n := 3) S eL_63 iP_missing sP_missing iniP kP_missing rfl rfl (by decide +kernel) ⟨by decide, by decide⟩) ⟨pw_blind, va_recv w.1 w.2.1 (ci := cP) (q0 := 9) rfl rfl, pw_pre w (w.1.sub [0, 1] rfl)⟩ rfl rfl hl.1 rfl (lv_room (Nat.le_of_ble_eq_true rfl)) dL_law_479 ⟨Nat.le_of_succ_le hc, Nat.le_trans (Nat.le_add_right _ 6) hs⟩) (fun r1 _ H locs hp w => ?_)
  have w : pw_S D (px_T cI cO ++ [(cL, .long)]) (fun q => s.heap.size ≤ q) ((pm_W m0 ad cI cd tm nf me nb sc gl nu si wh pl sm ms mg mn mk md ++ (px_W a0 af ab o ar cI cO fd nf sg nb lw aw tm G B ++ [(qo, .inl (cL, 1, .inr (.inl f)))]))) s _ _ := w
  refine lv_aload_n hx hb dL_law_482 rfl (lv_at hl 2 rfl) ?_
  refine lv_aload_n hx hb dL_law_483 rfl (lv_at hl 0 rfl) ?_
  refine lv_iload hx hb dL_law_484 (lv_at hl 4 rfl) ?_
  refine lv_iconst (v := 1) hx hb dL_law_486 (by decide) ?_
  refine lv_iadd hx hb dL_law_487 ?_
  refine pw_top (y := nI (i + 1)) (nI_add i 1) ?_
  refine pw_sld S w hX hbl (j := (i + 1)) (by omega) hL dL_law_488 ?_
  refine lv_aload_n hx hb dL_law_489 rfl (lv_at hl 0 rfl) ?_
  refine lv_iload hx hb dL_law_490 (lv_at hl 4 rfl) ?_
  refine lv_iconst (v := 2) hx hb dL_law_492 (by decide) ?_
  refine lv_iadd hx hb dL_law_493 ?_
  refine pw_top (y := nI (i + 2)) (nI_add i 2) ?_
  refine pw_sld S w hX hbl (j := (i + 2)) (by omega) hL dL_law_494 ?_
  refine lv_aload_n hx hb dL_law_495 rfl (lv_at hl 0 rfl) ?_
  refine lv_iload hx hb dL_law_496 (lv_at hl 4 rfl) ?_
  refine lv_iconst (v := 3) hx hb dL_law_498 (by decide) ?_
  refine lv_iadd hx hb dL_law_499 ?_
  refine pw_top (y := nI (i + 3)) (nI_add i 3) ?_
  refine pw_sld S w hX hbl (j := (i + 3)) (by omega) hL dL_law_500 ?_
  have w : pw_S D (px_T cI cO ++ [(cL, .long)]) (fun q => s.heap.size ≤ q) ([] ++ (pm_W m0 ad cI cd tm nf me nb sc gl nu si wh pl sm ms mg mn mk md ++ (px_W a0 af ab o ar cI cO fd nf sg nb lw aw tm G B ++ [(qo, .inl (cL, 1, .inr (.inl f)))]))) s _ _ := w
  refine pw_goi0 w (va_runV (C := RM) (As := [.int (xs (i + 1)), .int (xs (i + 2)), .int (xs (i + 3))]) (rest := [.int r1]) S (pm_c_missing l D m0 ad cI cd tm nf me nb sc gl nu si wh pl sm ms mg mn mk md _ hW.1 (fun q => (wh q).toNatClampNeg) (fun q hq => by obtain ⟨z, -, e2, -, e4, -⟩ := hW.2.2.1 q hq; rw [e2, nI_clamp (by omega)]; exact ⟨rfl, e4⟩) (xs (i + 1)) (xs (i + 2)) (xs (i + 3))) (pw_cw (n := 3) S eL_67 iM_missing sM_missing iniM kM_missing rfl rfl (by decide +kernel) ⟨by decide, by decide⟩) ⟨pw_blind, va_recv w.1 w.2.1 (ci := cM) (q0 := 0) rfl rfl, pw_pre w (w.1.sub [0] rfl)⟩ rfl rfl hl.1 rfl (lv_room (Nat.le_of_ble_eq_true rfl)) dL_law_501 ⟨Nat.le_of_succ_le hc, Nat.le_trans (Nat.le_add_right _ 6) hs⟩) (fun r2 _ H locs hp2 w => ?_)
  have w : pw_S D (px_T cI cO ++ [(cL, .long)]) (fun q => s.heap.size ≤ q) ((pm_W m0 ad cI 0 tm nf me nb sc gl nu si wh pl sm ms mg mn mk md ++ (px_W a0 af ab o ar cI cO fd nf sg nb lw aw tm G B ++ [(qo, .inl (cL, 1, .inr (.inl f)))]))) s _ _ := w
  have heq : r1 = r2 := by
    obtain ⟨x, hx1, e1⟩ := hp
    obtain ⟨y, hy1, e2⟩ := hp2
    have e3 := pr_fnd hW hx1 hy1
    subst e3
    rw [e1, e2]
    cases x with
    | none => rfl
    | some q9 =>
      obtain ⟨z, d1, d2, d3, d4, d5, d6⟩ := hW.2.2.1 q9 hx1.1
      show (G (sg q9)).2.2.2.2.1 = nI (pm_c (fun i => pl (1480 * q9 + i)) (wh q9).toNatClampNeg)
      rw [d1, d2, nI_clamp (by omega), pr_c (fun i9 hi9 => d5 i9 (by omega)) (fun i9 hi9 => d6 i9 (by omega))]
  refine W.widen (k := cells + 1) (n := slots + 6) (Nat.le_succ _) (Nat.le_add_right _ 6) ?_
  refine lv_icmp_eq (tgt := 583) hx hb dL_law_504 (by decide) (fun _ => ?_) (fun h9 => absurd heq h9)
  exact kk _ _ _ ⟨fd, nf, sg, nb, lw, aw, tm, G, B, 0, me, sc, gl, nu, si, wh, pl, sm, ms, mg, mn, mk, md, f, htm, hF, hW, hLs, w⟩ (lv_sub hl [0, 1, 2, 3, 4] rfl)

set_option maxHeartbeats 4000000 in
set_option maxRecDepth 100000 in
/-- the law's case: has -/
theorem pl_k_has {p : Program} {l : Launch} {e : Env} {s : State} {m : MethodId} {below : List Frame} {meth : Method} {c : Code} {b L : Nat} {xs : Nat → Int32} {D : va_G} {a0 af ab : Nat} {o ar : Nat → Nat} {cI cO : ClassId} {m0 : Nat} {ad : Nat → Nat} {qo : Nat} {cL : ClassId} {H : Heap} {locs : List Loc} {ls : Array Slot} {cells slots i : Nat} {Q : State → Prop}
    (hl9 : l.stackTraces = false) (S : pw_Fx p m c cL_law 7 s #[Value.ref b] RL) (hX : va_X b L xs s s.heap) (hbl : b < s.heap.size) (hL : L ≤ 3072) (hi : i + 6 ≤ L) (hc : cells + 1 ≤ 601024) (hs : slots + 6 ≤ 7293034) (st : pl_St D s a0 af ab o ar cI cO m0 ad qo cL H locs) (hl : lv_has ls 7 [(0, .ref b), (1, .ref a0), (2, .ref m0), (3, .ref qo), (4, .int (nI i))])
    (kk : ∀ (H1 : Heap) (locs1 : List Loc) (ls1 : Array Slot), pl_St D s a0 af ab o ar cI cO m0 ad qo cL H1 locs1 → lv_has ls1 7 [(0, .ref b), (1, .ref a0), (2, .ref m0), (3, .ref qo), (4, .int (nI i))] → W p l e room_1 s m #[Value.ref b] below meth c H1 locs1 (cells + 1) (slots + 6) Q (F0 m 583 ls1 [])) :
    W p l e room_1 s m #[Value.ref b] below meth c H locs cells slots Q (F0 m 509 ls []) := by
  obtain ⟨fd, nf, sg, nb, lw, aw, tm, G, B, cd, me, sc, gl, nu, si, wh, pl, sm, ms, mg, mn, mk, md, f, htm, hF, hW, hLs, w⟩ := st
  obtain ⟨hx, hb, hml, hown, hts⟩ := id S
  refine lv_aload_n hx hb dL_law_509 rfl (lv_at hl 1 rfl) ?_
  refine lv_aload_n hx hb dL_law_510 rfl (lv_at hl 0 rfl) ?_
  refine lv_iload hx hb dL_law_511 (lv_at hl 4 rfl) ?_
  refine lv_iconst (v := 1) hx hb dL_law_513 (by decide) ?_
  refine lv_iadd hx hb dL_law_514 ?_
  refine pw_top (y := nI (i + 1)) (nI_add i 1) ?_
  refine pw_sld S w hX hbl (j := (i + 1)) (by omega) hL dL_law_515 ?_
  refine lv_aload_n hx hb dL_law_516 rfl (lv_at hl 0 rfl) ?_
  refine lv_iload hx hb dL_law_517 (lv_at hl 4 rfl) ?_
  refine lv_iconst (v := 2) hx hb dL_law_519 (by decide) ?_
  refine lv_iadd hx hb dL_law_520 ?_
  refine pw_top (y := nI (i + 2)) (nI_add i 2) ?_
  refine pw_sld S w hX hbl (j := (i + 2)) (by omega) hL dL_law_521 ?_
  refine lv_aload_n hx hb dL_law_522 rfl (lv_at hl 0 rfl) ?_
  refine lv_iload hx hb dL_law_523 (lv_at hl 4 rfl) ?_
  refine lv_iconst (v := 3) hx hb dL_law_525 (by decide) ?_
  refine lv_iadd hx hb dL_law_526 ?_
  refine pw_top (y := nI (i + 3)) (nI_add i 3) ?_
  refine pw_sld S w hX hbl (j := (i + 3)) (by omega) hL dL_law_527 ?_
  refine lv_aload_n hx hb dL_law_528 rfl (lv_at hl 0 rfl) ?_
  refine lv_iload hx hb dL_law_529 (lv_at hl 4 rfl) ?_
  refine lv_iconst (v := 4) hx hb dL_law_531 (by decide) ?_
  refine lv_iadd hx hb dL_law_532 ?_
  refine pw_top (y := nI (i + 4)) (nI_add i 4) ?_
  refine pw_sld S w hX hbl (j := (i + 4)) (by omega) hL dL_law_533 ?_
  refine pw_goi0 w (va_runV (C := RP) (As := [.int (xs (i + 1)), .int (xs (i + 2)), .int (xs (i + 3)), .int (xs (i + 4))]) (rest := []) S (px_c_has l D a0 af ab o ar cI cO fd nf sg nb lw aw tm G B _ hW.1 hW.2.1.1 (fun q hq => by obtain ⟨z, e1, e2, -, e4, -⟩ := hW.2.2.1 q hq; exact ⟨z, by rw [e1]; exact e2, e4⟩) (xs (i + 1)) (xs (i + 2)) (xs (i + 3)) (xs (i + 4))) (pw_cw (n := 4) S eL_68 iP_has sP_has iniP kP_has rfl rfl (by decide +kernel) ⟨by decide, by decide⟩) ⟨pw_blind, va_recv w.1 w.2.1 (ci := cP) (q0 := 9) rfl rfl, pw_pre w (w.1.sub [0, 1] rfl)⟩ rfl rfl hl.1 rfl (lv_room (Nat.le_of_ble_eq_true rfl)) dL_law_534 ⟨Nat.le_of_succ_le hc, Nat.le_trans (Nat.le_add_right _ 6) hs⟩) (fun r1 _ H locs hp w => ?_)
  have w : pw_S D (px_T cI cO ++ [(cL, .long)]) (fun q => s.heap.size ≤ q) ((pm_W m0 ad cI cd tm nf me nb sc gl nu si wh pl sm ms mg mn mk md ++ (px_W a0 af ab o ar cI cO fd nf sg nb lw aw tm G B ++ [(qo, .inl (cL, 1, .inr (.inl f)))]))) s _ _ := w
  refine lv_aload_n hx hb dL_law_537 rfl (lv_at hl 2 rfl) ?_
  refine lv_aload_n hx hb dL_law_538 rfl (lv_at hl 0 rfl) ?_
  refine lv_iload hx hb dL_law_539 (lv_at hl 4 rfl) ?_
  refine lv_iconst (v := 1) hx hb dL_law_541 (by decide) ?_
  refine lv_iadd hx hb dL_law_542 ?_
  refine pw_top (y := nI (i + 1)) (nI_add i 1) ?_
  refine pw_sld S w hX hbl (j := (i + 1)) (by omega) hL dL_law_543 ?_
  refine lv_aload_n hx hb dL_law_544 rfl (lv_at hl 0 rfl) ?_
  refine lv_iload hx hb dL_law_545 (lv_at hl 4 rfl) ?_
  refine lv_iconst (v := 2) hx hb dL_law_547 (by decide) ?_
  refine lv_iadd hx hb dL_law_548 ?_
  refine pw_top (y := nI (i + 2)) (nI_add i 2) ?_
  refine pw_sld S w hX hbl (j := (i + 2)) (by omega) hL dL_law_549 ?_
  refine lv_aload_n hx hb dL_law_550 rfl (lv_at hl 0 rfl) ?_
  refine lv_iload hx hb dL_law_551 (lv_at hl 4 rfl) ?_
  refine lv_iconst (v := 3) hx hb dL_law_553 (by decide) ?_
  refine lv_iadd hx hb dL_law_554 ?_
  refine pw_top (y := nI (i + 3)) (nI_add i 3) ?_
  refine pw_sld S w hX hbl (j := (i + 3)) (by omega) hL dL_law_555 ?_
  refine lv_aload_n hx hb dL_law_556 rfl (lv_at hl 0 rfl) ?_
  refine lv_iload hx hb dL_law_557 (lv_at hl 4 rfl) ?_
  refine lv_iconst (v := 4) hx hb dL_law_559 (by decide) ?_
  refine lv_iadd hx hb dL_law_560 ?_
  refine pw_top (y := nI (i + 4)) (nI_add i 4) ?_
  refine pw_sld S w hX hbl (j := (i + 4)) (by omega) hL dL_law_561 ?_
  have w : pw_S D (px_T cI cO ++ [(cL, .long)]) (fun q => s.heap.size ≤ q) ([] ++ (pm_W m0 ad cI cd tm nf me nb sc gl nu si wh pl sm ms mg mn mk md ++ (px_W a0 af ab o ar cI cO fd nf sg nb lw aw tm G B ++ [(qo, .inl (cL, 1, .inr (.inl f)))]))) s _ _ := w
  refine pw_goi0 w (va_runV (C := RM) (As := [.int (xs (i + 1)), .int (xs (i + 2)), .int (xs (i + 3)), .int (xs (i + 4))]) (rest := [.int r1]) S (pm_c_has l D m0 ad cI cd tm nf me nb sc gl nu si wh pl sm ms mg mn mk md _ hW.1 (fun q => (wh q).toNatClampNeg) (fun q hq => by obtain ⟨z, -, e2, -, e4, -⟩ := hW.2.2.1 q hq; rw [e2, nI_clamp (by omega)]; exact ⟨rfl, e4⟩) (xs (i + 1)) (xs (i + 2)) (xs (i + 3)) (xs (i + 4))) (pw_cw (n := 4) S eL_72 iM_has sM_has iniM kM_has rfl rfl (by decide +kernel) ⟨by decide, by decide⟩) ⟨pw_blind, va_recv w.1 w.2.1 (ci := cM) (q0 := 0) rfl rfl, pw_pre w (w.1.sub [0] rfl)⟩ rfl rfl hl.1 rfl (lv_room (Nat.le_of_ble_eq_true rfl)) dL_law_562 ⟨Nat.le_of_succ_le hc, Nat.le_trans (Nat.le_add_right _ 6) hs⟩) (fun r2 _ H locs hp2 w => ?_)
  have w : pw_S D (px_T cI cO ++ [(cL, .long)]) (fun q => s.heap.size ≤ q) ((pm_W m0 ad cI 0 tm nf me nb sc gl nu si wh pl sm ms mg mn mk md ++ (px_W a0 af ab o ar cI cO fd nf sg nb lw aw tm G B ++ [(qo, .inl (cL, 1, .inr (.inl f)))]))) s _ _ := w
  have heq : r1 = r2 := by
    obtain ⟨x, hx1, e1⟩ := hp
    obtain ⟨y, hy1, e2⟩ := hp2
    have e3 := pr_fnd hW hx1 hy1
    subst e3
    have hiff : px_hs sg G B (xs (i + 4)) x ↔ pm_hs pl (fun q => (wh q).toNatClampNeg) (xs (i + 4)) x := by
      cases x with
      | none => exact Iff.rfl
      | some q9 =>
        obtain ⟨z, d1, d2, d3, d4, d5, d6⟩ := hW.2.2.1 q9 hx1.1
        have hz : (wh q9).toNatClampNeg = z := by rw [d2, nI_clamp (by omega)]
        have hsz : (G (sg q9)).2.2.2.1 = nI z := by rw [d1]; exact d2
        have hb : ∀ t : Int32, ¬ t < 0 → ¬ nI z ≤ t → (¬ B (sg q9) t.toNatClampNeg = -1 ↔ ¬ pl (1480 * q9 + t.toNatClampNeg) < 0) := by
          intro t h1 h2
          obtain ⟨t9, ht9, rfl⟩ := nI_of h1
          have hlt : t9 < z := Nat.lt_of_not_le (fun q => h2 (nI_le q (by omega)))
          rw [nI_clamp ht9]
          have e5 : pl (1480 * q9 + t9) = B (sg q9) t9 := d5 t9 (by omega)
          rw [e5]
          rcases d6 t9 (by omega) with y9 | y9
          · exact ⟨fun q => absurd y9 q, fun q => absurd (pr_neg y9) q⟩
          · exact ⟨fun _ => y9, fun _ q => y9 (pr_neg q)⟩
        constructor
        · rintro ⟨zs, f1, ⟨f2, f3, f4⟩, f5⟩
          have e9 : zs = z := px_sz (f1.symm.trans hsz) f5 d4
          subst e9
          exact ⟨f2, by dsimp only; rw [hz]; exact f3, (hb _ f2 f3).mp f4⟩
        · rintro ⟨f2, f3, f4⟩
          dsimp only at f3
          rw [hz] at f3
          exact ⟨z, hsz, ⟨f2, f3, (hb _ f2 f3).mpr f4⟩, d4⟩
    rcases e1 with ⟨g1, g2⟩ | ⟨g1, g2⟩ <;> rcases e2 with ⟨g3, g4⟩ | ⟨g3, g4⟩
    · rw [g1, g3]
    · exact absurd (hiff.mp g2) g4
    · exact absurd (hiff.mpr g4) g2
    · rw [g1, g3]
  refine W.widen (k := cells + 1) (n := slots + 6) (Nat.le_succ _) (Nat.le_add_right _ 6) ?_
  refine lv_icmp_eq (tgt := 583) hx hb dL_law_565 (by decide) (fun _ => ?_) (fun h9 => absurd heq h9)
  exact kk _ _ _ ⟨fd, nf, sg, nb, lw, aw, tm, G, B, 0, me, sc, gl, nu, si, wh, pl, sm, ms, mg, mn, mk, md, f, htm, hF, hW, hLs, w⟩ (lv_sub hl [0, 1, 2, 3, 4] rfl)

set_option maxHeartbeats 4000000 in
set_option maxRecDepth 100000 in
/-- the law's case: waiting -/
theorem pl_k_waiting {p : Program} {l : Launch} {e : Env} {s : State} {m : MethodId} {below : List Frame} {meth : Method} {c : Code} {b L : Nat} {xs : Nat → Int32} {D : va_G} {a0 af ab : Nat} {o ar : Nat → Nat} {cI cO : ClassId} {m0 : Nat} {ad : Nat → Nat} {qo : Nat} {cL : ClassId} {H : Heap} {locs : List Loc} {ls : Array Slot} {cells slots i : Nat} {Q : State → Prop}
    (hl9 : l.stackTraces = false) (S : pw_Fx p m c cL_law 7 s #[Value.ref b] RL) (hX : va_X b L xs s s.heap) (hbl : b < s.heap.size) (hL : L ≤ 3072) (hi : i + 6 ≤ L) (hc : cells + 1 ≤ 601024) (hs : slots + 6 ≤ 7293034) (st : pl_St D s a0 af ab o ar cI cO m0 ad qo cL H locs) (hl : lv_has ls 7 [(0, .ref b), (1, .ref a0), (2, .ref m0), (3, .ref qo), (4, .int (nI i))])
    (kk : ∀ (H1 : Heap) (locs1 : List Loc) (ls1 : Array Slot), pl_St D s a0 af ab o ar cI cO m0 ad qo cL H1 locs1 → lv_has ls1 7 [(0, .ref b), (1, .ref a0), (2, .ref m0), (3, .ref qo), (4, .int (nI i))] → W p l e room_1 s m #[Value.ref b] below meth c H1 locs1 (cells + 1) (slots + 6) Q (F0 m 583 ls1 [])) :
    W p l e room_1 s m #[Value.ref b] below meth c H locs cells slots Q (F0 m 570 ls []) := by
  obtain ⟨fd, nf, sg, nb, lw, aw, tm, G, B, cd, me, sc, gl, nu, si, wh, pl, sm, ms, mg, mn, mk, md, f, htm, hF, hW, hLs, w⟩ := st
  obtain ⟨hx, hb, hml, hown, hts⟩ := id S
  refine lv_aload_n hx hb dL_law_570 rfl (lv_at hl 1 rfl) ?_
  refine pw_goi0 w (va_runV (C := RP) (As := []) (rest := []) S (px_c_waiting l D a0 af ab o ar cI cO fd nf sg nb lw aw tm G B _ ) (pw_cw (n := 0) S eL_73 iP_waiting sP_waiting iniP kP_waiting rfl rfl (by decide +kernel) ⟨by decide, by decide⟩) ⟨pw_blind, va_recv w.1 w.2.1 (ci := cP) (q0 := 9) rfl rfl, pw_pre w (w.1.sub [0, 1] rfl)⟩ rfl rfl hl.1 rfl (lv_room (Nat.le_of_ble_eq_true rfl)) dL_law_571 ⟨Nat.le_of_succ_le hc, Nat.le_trans (Nat.le_add_right _ 6) hs⟩) (fun r1 _ H locs hp w => ?_)
  have w : pw_S D (px_T cI cO ++ [(cL, .long)]) (fun q => s.heap.size ≤ q) ((pm_W m0 ad cI cd tm nf me nb sc gl nu si wh pl sm ms mg mn mk md ++ (px_W a0 af ab o ar cI cO fd nf sg nb lw aw tm G B ++ [(qo, .inl (cL, 1, .inr (.inl f)))]))) s _ _ := w
  refine lv_aload_n hx hb dL_law_574 rfl (lv_at hl 2 rfl) ?_
  have w : pw_S D (px_T cI cO ++ [(cL, .long)]) (fun q => s.heap.size ≤ q) ([] ++ (pm_W m0 ad cI cd tm nf me nb sc gl nu si wh pl sm ms mg mn mk md ++ (px_W a0 af ab o ar cI cO fd nf sg nb lw aw tm G B ++ [(qo, .inl (cL, 1, .inr (.inl f)))]))) s _ _ := w
  refine pw_goi0 w (va_runV (C := RM) (As := []) (rest := [.int r1]) S (pm_c_waiting l D m0 ad cI cd tm nf me nb sc gl nu si wh pl sm ms mg mn mk md _ ) (pw_cw (n := 0) S eL_76 iM_waiting sM_waiting iniM kM_waiting rfl rfl (by decide +kernel) ⟨by decide, by decide⟩) ⟨pw_blind, va_recv w.1 w.2.1 (ci := cM) (q0 := 0) rfl rfl, pw_pre w (w.1.sub [0] rfl)⟩ rfl rfl hl.1 rfl (lv_room (Nat.le_of_ble_eq_true rfl)) dL_law_575 ⟨Nat.le_of_succ_le hc, Nat.le_trans (Nat.le_add_right _ 6) hs⟩) (fun r2 _ H locs hp2 w => ?_)
  have w : pw_S D (px_T cI cO ++ [(cL, .long)]) (fun q => s.heap.size ≤ q) ((pm_W m0 ad cI 0 tm nf me nb sc gl nu si wh pl sm ms mg mn mk md ++ (px_W a0 af ab o ar cI cO fd nf sg nb lw aw tm G B ++ [(qo, .inl (cL, 1, .inr (.inl f)))]))) s _ _ := w
  have heq : r1 = r2 := hp.trans hp2.symm
  refine W.widen (k := cells + 1) (n := slots + 6) (Nat.le_succ _) (Nat.le_add_right _ 6) ?_
  refine lv_icmp_eq (tgt := 583) hx hb dL_law_578 (by decide) (fun _ => ?_) (fun h9 => absurd heq h9)
  exact kk _ _ _ ⟨fd, nf, sg, nb, lw, aw, tm, G, B, 0, me, sc, gl, nu, si, wh, pl, sm, ms, mg, mn, mk, md, f, htm, hF, hW, hLs, w⟩ (lv_sub hl [0, 1, 2, 3, 4] rfl)
end
section
/-! THE CLAIM OUT OF ONE WALK OF THE LAW'S BODY. Your part is whole_start (and what it stands on); all else here is the same for every law, but numbers. -/
def R_law : String := "PieceBenchLaw"
def lw_P (b : Addr) (xs : List Int32) (args : Array Value) (s : State) : Prop := args = #[.ref b] ∧ s.IntsAt b xs ∧ xs.length ≤ 3072 ∧ (Jvm.Cond.and given_1 narrow_1).before args s = true
def lw_Q (_ : Array Value) (s : State) (o : Outcome) (t : State) : Prop := o = .returned (some (.int 1)) ∧ Framed s o t [] 601024 7293034
def lw_Z (below : List Frame) (a : Array Value) (s : State) : State → Prop := fun t => ∃ o, t.status = .running ∧ Ended t below o ∧ lw_Q a s o t
/-- the law's own end, with 1 on the stack, nothing written that was there before, its room as the claim has it -/
theorem lw_ret {p : Program} {l : Launch} {e : Env} {s : State} {m : MethodId} {below : List Frame} {meth : Method} {c : Code} {b : Nat} (hx : p.tables.exec = Jvm.exec) (hb : c.code = code) (hr : meth.sig.returnType = ret) (hlocks : meth.locks = false) {pc : Nat} {H : Heap} {ls : Array Slot} (hdg : decode code pc = .ok (.ireturn, 1)) : W p l e room_1 s m #[Value.ref b] below meth c H [] 601024 7293034 (lw_Z below #[Value.ref b] s) (F0 m pc ls [.int 1]) := by
  intro T hT X
  obtain ⟨fs, hret, hrun, hended, hW, hframe⟩ := X.leave (v := some (.int 1)) (hlocks := hlocks) (fun h => by rw [hr] at h; cases h)
  have hmeth' : T.vm.method? m = some meth := X.method'
  refine ⟨T.setFrames fs, ?_, .returned (some (.int 1)), hrun, hended, rfl, ⟨_, rfl⟩, hW, hframe⟩
  jvm_step X.here [X.here.top, hx, hb, hdg, hmeth', hr, ret, narrow_b1]
  (try refine ⟨rfl, ?_⟩); (try refine ⟨rfl, ?_⟩)
  first | (intro acts; rw [hret _ acts rfl rfl rfl]) | rw [hret _ _ rfl rfl rfl]
  exact Steps.refl _
/-- what holds at the law's entry: the machine, the code, the tables' words (any of lw_tbl by 'hts w (by decide +kernel)'), the script of L ints xs at the cell b, what the Statement gives of the start (any of its parts by flat_of_before) -/
def lw_At (p : Program) (s : State) (m : MethodId) (meth : Method) (c : Code) (b L : Nat) (xs : Nat → Int32) : Prop :=
  p.tables.exec = Jvm.exec ∧ c.code = code ∧ meth.sig.returnType = ret ∧ c.maxLocals = 7 ∧ s.vm.findClass R_law = some m.cls ∧ (∀ w ∈ lw_tbl, w.before #[Value.ref b] s = true) ∧ va_X b L xs s s.heap ∧ b < s.heap.size ∧ meth.locks = false ∧ (Jvm.Cond.and given_1 narrow_1).before #[Value.ref b] s = true
end
section
set_option maxHeartbeats 4000000 in
set_option maxRecDepth 100000 in
/-- THE LAW'S LOOP: at its head, k calls done -/
theorem pl_loop {p : Program} {l : Launch} {e : Env} {s : State} {m : MethodId} {below : List Frame} {meth : Method} {c : Code} {b L : Nat} {xs : Nat → Int32} {D : va_G} {a0 af ab : Nat} {o ar : Nat → Nat} {cI cO : ClassId} {m0 : Nat} {ad : Nat → Nat} {qo : Nat} {cL : ClassId} (hl9 : l.stackTraces = false) (S : pw_Fx p m c cL_law 7 s #[Value.ref b] RL) (hr : meth.sig.returnType = ret) (hlocks : meth.locks = false) (hX : va_X b L xs s s.heap) (hbl : b < s.heap.size) (hL : L ≤ 3072) :
    ∀ (n k : Nat), 6 * k ≤ L → L < 6 * k + 6 * n → ∀ (H : Heap) (locs : List Loc), pl_St D s a0 af ab o ar cI cO m0 ad qo cL H locs → ∀ (ls : Array Slot), lv_has ls 7 [(0, .ref b), (1, .ref a0), (2, .ref m0), (3, .ref qo), (4, .int (nI (6 * k)))] → W p l e room_1 s m #[Value.ref b] below meth c H locs (23 + k) (19329 + 6 * k) (lw_Z below #[Value.ref b] s) (F0 m 23 ls []) := by
  obtain ⟨hx, hb, hml, hown, hts⟩ := id S
  intro n
  induction n with
  | zero => intros; omega
  | succ n ih =>
    intro k hk hn H locs st ls hl
    have st0 := st
    obtain ⟨fd, nf, sg, nb, lw, aw, tm, G, B, cd, me, sc, gl, nu, si, wh, pl, sm, ms, mg, mn, mk, md, f, htm, hF, hW, hLs, w⟩ := st0
    refine lv_iload hx hb dL_law_23 (lv_at hl 4 rfl) ?_
    refine lv_aload_n hx hb dL_law_25 rfl (lv_at hl 0 rfl) ?_
    refine va_slen hx hb hX hbl (Nat.not_le.mpr hbl) w.2.2.2.1 dL_law_26 ?_
    refine lv_bipush (v := 6) hx hb dL_law_27 (by decide) ?_
    refine lv_isub hx hb dL_law_29 ?_
    have h6 : (nI L - 6).toInt = (L : Int) - 6 := pk_sub_toInt (a := L) (b := 6) (by omega) (by decide)
    have hi9 : (nI (6 * k)).toInt = ((6 * k : Nat) : Int) := nI_toInt (by omega)
    refine lv_icmp_gt (tgt := 589) hx hb dL_law_30 (by decide) (fun h1 => ?_) (fun h1 => ?_)
    · refine lv_iconst (v := 1) hx hb dL_law_589 (by decide) ?_
      refine va_forget (fun q hq => w.2.2.2.1.2.2 q hq) ?_
      refine W.widen (k := 601024) (n := 7293034) (by omega) (by omega) ?_
      exact lw_ret hx hb hr hlocks dL_law_590
    · have hle : 6 * k + 6 ≤ L := by have h9 : (nI (6 * k)).toInt ≤ (nI L - 6).toInt := pw_nlt h1; rw [h6, hi9] at h9; omega
      have kk : ∀ (H1 : Heap) (locs1 : List Loc) (ls1 : Array Slot), pl_St D s a0 af ab o ar cI cO m0 ad qo cL H1 locs1 → lv_has ls1 7 [(0, .ref b), (1, .ref a0), (2, .ref m0), (3, .ref qo), (4, .int (nI (6 * k)))] → W p l e room_1 s m #[Value.ref b] below meth c H1 locs1 (23 + k + 1) (19329 + 6 * k + 6) (lw_Z below #[Value.ref b] s) (F0 m 583 ls1 []) := by
        intro H1 locs1 ls1 st1 hl1
        refine lv_iinc (v := nI (6 * (k + 1))) (lv' := [(4, .int (nI (6 * (k + 1)))), (0, .ref b), (1, .ref a0), (2, .ref m0), (3, .ref qo)]) hx hb dL_law_583 hl1 (k := 4) rfl (nI_add (6 * k) 6) (by decide) rfl (fun ls2 hl2 => ?_)
        refine lv_goto (tgt := 23) hx hb dL_law_586 (by decide) ?_
        refine W.widen (k := 23 + (k + 1)) (n := 19329 + 6 * (k + 1)) (by omega) (by omega) ?_
        exact ih (k + 1) (by omega) (by omega) H1 locs1 st1 ls2 (lv_sub hl2 [1, 2, 3, 4, 0] rfl)
      have hc : 23 + k + 1 ≤ 601024 := by omega
      have hs : 19329 + 6 * k + 6 ≤ 7293034 := by omega
      refine lv_aload_n hx hb dL_law_33 rfl (lv_at hl 0 rfl) ?_
      refine lv_iload hx hb dL_law_34 (lv_at hl 4 rfl) ?_
      refine pw_sld S w hX hbl (j := 6 * k) (by omega) hL dL_law_36 ?_
      refine lv_bipush (v := 7) hx hb dL_law_37 (by decide) ?_
      refine lv_iand hx hb dL_law_39 ?_
      obtain ⟨j9, hj9, ej9⟩ := pk_andE (xs (6 * k)) (m := 7) 3 (by decide)
      refine pw_top ej9 ?_
      have hj9 : j9 < 8 := hj9
      rcases (show j9 = 0 ∨ j9 = 1 ∨ j9 = 2 ∨ j9 = 3 ∨ j9 = 4 ∨ j9 = 5 ∨ j9 = 6 ∨ j9 = 7 by omega) with rfl | rfl | rfl | rfl | rfl | rfl | rfl | rfl
      · refine lv_tableIn (tgt := 88) hx hb dL_law_40 (by decide) (by decide) rfl (by decide) ?_
        exact pl_k_feed hl9 S hX hbl hL hle hc hs st hl kk
      · refine lv_tableIn (tgt := 188) hx hb dL_law_40 (by decide) (by decide) rfl (by decide) ?_
        exact pl_k_piece hl9 S hX hbl hL hle hc hs st hl kk
      · refine lv_tableIn (tgt := 292) hx hb dL_law_40 (by decide) (by decide) rfl (by decide) ?_
        exact pl_k_pass hl9 S hX hbl hL hle hc hs st hl kk
      · refine lv_tableIn (tgt := 348) hx hb dL_law_40 (by decide) (by decide) rfl (by decide) ?_
        exact pl_k_about hl9 S hX hbl hL hle hc hs st hl kk
      · refine lv_tableIn (tgt := 404) hx hb dL_law_40 (by decide) (by decide) rfl (by decide) ?_
        exact pl_k_byteAt hl9 S hX hbl hL hle hc hs st hl kk
      · refine lv_tableIn (tgt := 460) hx hb dL_law_40 (by decide) (by decide) rfl (by decide) ?_
        exact pl_k_missing hl9 S hX hbl hL hle hc hs st hl kk
      · refine lv_tableIn (tgt := 509) hx hb dL_law_40 (by decide) (by decide) rfl (by decide) ?_
        exact pl_k_has hl9 S hX hbl hL hle hc hs st hl kk
      · refine lv_tableIn (tgt := 570) hx hb dL_law_40 (by decide) (by decide) rfl (by decide) ?_
        exact pl_k_waiting hl9 S hX hbl hL hle hc hs st hl kk
end
section
set_option maxHeartbeats 4000000 in
set_option maxRecDepth 100000 in
/-- THE LAW, from its entry -/
theorem whole_start {p : Program} {e : Env} {s : State} {m : MethodId} {below : List Frame} {meth : Method} {c : Code} (l : Launch) (hl9 : l.stackTraces = false) {b L : Nat} {xs : Nat → Int32} (hL : L ≤ 3072) (C0 : lw_At p s m meth c b L xs) : W p l e room_1 s m #[Value.ref b] below meth c s.heap [] 0 0 (lw_Z below #[Value.ref b] s) (entryFrame m ([Value.ref b] : List Value).toArray 7) := by
  obtain ⟨hx, hb, hr, hml, hown0, hts0, hX, hbl, hlocks, hgv⟩ := id C0
  have S : pw_Fx p m c cL_law 7 s #[Value.ref b] RL := ⟨hx, hb, hml, hown0, fun w h => hts0 w (List.mem_filter.mp h).1⟩
  obtain ⟨-, -, -, hown, hts⟩ := id S
  obtain ⟨c0, iS0, hKn0⟩ := u_known (C := RD) (T := TD) (N := 7) (n := 7) hts px_FD.2.1 (hts _ nwD)
  obtain ⟨c1, iS1, hKn1⟩ := u_known (C := RP) (T := TP) (N := 7) (n := 7) hts px_FP.2.1 (hts _ nwP)
  obtain ⟨c2, iS2, hKn2⟩ := u_known (C := RM) (T := TM) (N := 17) (n := 17) hts pm_FM.2.1 (hts _ nwM)
  obtain ⟨D, hKc⟩ : ∃ D : va_G, ∀ (k : Nat) (q : vw_C), vwCl[k]? = some q → u_Kn s q.1 q.2.1 q.2.2 (D.1 k) (D.2 k) := by
    refine ⟨(fun k => if k = 0 then c0 else if k = 1 then c1 else c2, fun k => if k = 0 then iS0 else if k = 1 then iS1 else iS2), ?_⟩
    intro k q hq
    match k, hq with
    | 0, hq => cases hq; exact hKn0
    | 1, hq => cases hq; exact hKn1
    | 2, hq => cases hq; exact hKn2
    | k + 3, hq => simp [vwCl] at hq
  have hZ : pw_Z (fun q => s.heap.size ≤ q) s s.heap := ⟨⟨s, #[Value.ref b], State.WarmedH.refl s, hts0, hgv⟩, vx_Zqof (hts0 (.laysStatic Bundle.tN "UNASSIGNED_STACK" Bundle.steD) (by decide +kernel)) (hts0 (.initialized Bundle.tN) (by decide +kernel)) (flat_of_before _ hgv (.isRef (.static Bundle.tN "UNASSIGNED_STACK" Bundle.steD)) (by decide +kernel)) (fun a h => Nat.not_le.mpr h), vx_Zqof (hts0 (.laysStatic Bundle.tN "SUPPRESSED_SENTINEL" Bundle.listD) (by decide +kernel)) (hts0 (.initialized Bundle.tN) (by decide +kernel)) (flat_of_before _ hgv (.isRef (.static Bundle.tN "SUPPRESSED_SENTINEL" Bundle.listD)) (by decide +kernel)) (fun a h => Nat.not_le.mpr h)⟩
  have w : pw_S D [] (fun q => s.heap.size ≤ q) [] s s.heap [] := ⟨⟨hKc, fun k q h => by simp at h⟩, fun k q h => by simp at h, ⟨fun i j p q h => by simp at h, fun k q h => by simp at h⟩, va_S.rf, fun _ h => h, hZ⟩
  have hl := lv_entry ([.ref b]) (n := 7) (Nat.le_of_ble_eq_true rfl)
  rw [lg_entry_eq]
  generalize (lg_sl ([.ref b]) ++ List.replicate (7 - (lg_sl ([.ref b])).length) Slot.unset).toArray = ls at hl ⊢
  have hl : lv_has ls 7 [(0, .ref b)] := hl
  refine pw_new S w px_FP eL_8 nwP iniP (fs := [.null, .int 0, .null, .int 0, .null, .int 0, .int 0]) (fun j hj => by rcases (show j = 0 ∨ j = 1 ∨ j = 2 ∨ j = 3 ∨ j = 4 ∨ j = 5 ∨ j = 6 by omega) with rfl | rfl | rfl | rfl | rfl | rfl | rfl <;> rfl) (by decide) (by decide) dL_law_0 (fun a0 H w => ?_)
  refine lv_dup hx hb dL_law_3 rfl ?_
  have w : pw_S D [] (fun q => s.heap.size ≤ q) ([] ++ ([(a0, .inr (cP, [.null, .int 0, .null, .int 0, .null, .int 0, .int 0]))] ++ [])) s _ _ := w
  refine pw_gov w (va_runI (As := []) (rest := [.ref a0]) S (px_c_init l D a0 _) (pw_ci (n := 0) S eL_33 iP_init iniP kP_init rfl rfl rfl (by decide +kernel) ⟨by decide, by decide⟩) ⟨pw_blind, pw_pre w w.1⟩ rfl rfl hl.1 rfl (lv_room (Nat.le_of_ble_eq_true rfl)) dL_law_4 ⟨by decide, by decide⟩) (fun u H locs _ hK1 w => ?_)
  obtain ⟨af, ab, o, ar, cI, cO⟩ := u
  have w := w.one
  have w : pw_S D (px_T cI cO) (fun q => s.heap.size ≤ q) (px_N a0 (af, ab, o, ar, cI, cO)) s _ _ := ⟨hK1, w.2⟩
  generalize hXe : px_N a0 (af, ab, o, ar, cI, cO) = XW at w
  refine lv_astore_n (lv' := [(1, .ref a0), (0, .ref b)]) hx hb dL_law_7 rfl hl (by decide) rfl (fun ls hl => ?_)
  refine pw_new S w pm_FM eL_34 nwM iniM (fs := [.int 0, .int 0, .int 0, .null, .int 0, .null, .null, .null, .null, .null, .null, .int 0, .int 0, .int 0, .int 0, .int 0, .null]) (fun j hj => by rcases (show j = 0 ∨ j = 1 ∨ j = 2 ∨ j = 3 ∨ j = 4 ∨ j = 5 ∨ j = 6 ∨ j = 7 ∨ j = 8 ∨ j = 9 ∨ j = 10 ∨ j = 11 ∨ j = 12 ∨ j = 13 ∨ j = 14 ∨ j = 15 ∨ j = 16 by omega) with rfl | rfl | rfl | rfl | rfl | rfl | rfl | rfl | rfl | rfl | rfl | rfl | rfl | rfl | rfl | rfl | rfl <;> rfl) (by decide) (by decide) dL_law_8 (fun m0 H w => ?_)
  refine lv_dup hx hb dL_law_11 rfl ?_
  have w : pw_S D (px_T cI cO) (fun q => s.heap.size ≤ q) (XW ++ ([(m0, .inr (cM, [.int 0, .int 0, .int 0, .null, .int 0, .null, .null, .null, .null, .null, .null, .int 0, .int 0, .int 0, .int 0, .int 0, .null]))] ++ [])) s _ _ := w
  refine pw_gov w (va_runI (As := []) (rest := [.ref m0]) S (pm_c_init l D m0 _) (pw_ci (n := 0) S eL_36 iM_init iniM kM_init rfl rfl rfl (by decide +kernel) ⟨by decide, by decide⟩) ⟨pw_blind, pw_pre w (w.1.sub (tys' := []) [] rfl)⟩ rfl rfl hl.1 rfl (lv_room (Nat.le_of_ble_eq_true rfl)) dL_law_12 ⟨by decide, by decide⟩) (fun u H locs _ hK2 w => ?_)
  obtain ⟨ad, c9⟩ := u
  have e9 : cI = c9 := pw_cI w.1 hK2 (i := 0) (j := 0) rfl rfl
  subst e9
  have w : pw_S D (px_T cI cO) (fun q => s.heap.size ≤ q) (XW ++ (pm_W m0 ad cI 0 0 0 (fun _ => 0) 0 (fun _ => 0) (fun _ => 0) (fun _ => 0) (fun _ => 0) (fun _ => 0) (fun _ => 0) 0 0 0 0 0 (fun _ => 0) ++ [])) s _ _ := w
  refine lv_astore_n (lv' := [(2, .ref m0), (1, .ref a0), (0, .ref b)]) hx hb dL_law_15 rfl hl (by decide) rfl (fun ls hl => ?_)
  refine lv_iconst (v := 1) hx hb dL_law_16 (by decide) ?_
  refine pw_newl S w arL (n := 1) (N := 1) (by decide) (by decide) (by decide) (by decide) (by decide) dL_law_17 (fun qo cL H w => ?_)
  refine lv_astore_n (lv' := [(3, .ref qo), (2, .ref m0), (1, .ref a0), (0, .ref b)]) hx hb dL_law_19 rfl hl (by decide) rfl (fun ls hl => ?_)
  refine lv_iconst (v := 0) hx hb dL_law_20 (by decide) ?_
  refine lv_istore (lv' := [(4, .int 0), (3, .ref qo), (2, .ref m0), (1, .ref a0), (0, .ref b)]) hx hb dL_law_21 hl (by decide) rfl (fun ls hl => ?_)
  subst hXe
  have w : pw_S D (px_T cI cO ++ [(cL, .long)]) (fun q => s.heap.size ≤ q) (pm_W m0 ad cI 0 0 0 (fun _ => 0) 0 (fun _ => 0) (fun _ => 0) (fun _ => 0) (fun _ => 0) (fun _ => 0) (fun _ => 0) 0 0 0 0 0 (fun _ => 0) ++ (px_N a0 (af, ab, o, ar, cI, cO) ++ [(qo, .inl (cL, 1, .inr (.inl (fun _ => 0))))])) s _ _ := pw_perm (by
    rw [List.append_nil, List.append_assoc]
    exact List.perm_append_comm_assoc _ _ _) w
  refine W.widen (k := 23 + 0) (n := 19329 + 6 * 0) (by decide) (by decide) ?_
  refine pl_loop (D := D) (a0 := a0) (af := af) (ab := ab) (o := o) (ar := ar) (cI := cI) (cO := cO) (m0 := m0) (ad := ad) (qo := qo) (cL := cL) hl9 S hr hlocks hX hbl hL (L + 1) 0 (by omega) (by omega) _ _ ?_ _ (lv_sub hl [4, 3, 2, 1, 0] rfl)
  exact ⟨fun _ => 0, 0, fun q => q, 0, 4, 0, 0, fun _ => (0, 0, 0, 0, 0, 0), fun _ _ => 0, 0, fun _ => 0, fun _ => 0, fun _ => 0, fun _ => 0, fun _ => 0, fun _ => 0, fun _ => 0, 0, 0, 0, 0, 0, fun _ => 0, fun _ => 0, Nat.zero_le _, ⟨Nat.zero_le _, fun i hi => absurd hi (Nat.not_lt_zero i)⟩, ⟨Nat.zero_le _, ⟨fun q hq => Nat.lt_succ_of_lt hq, by decide, fun q r _ _ e9 => e9, fun q hq e9 => by have e9 : q = 4 := e9; omega⟩, fun q hq => absurd hq (Nat.not_lt_zero q), fun q r hq => absurd hq (Nat.not_lt_zero q)⟩, ⟨rfl, fun h9 => absurd rfl h9⟩, w⟩
end
section
set_option maxHeartbeats 4000000 in
theorem lw_walk (l : Launch) (hl9 : l.stackTraces = false) (b : Addr) (xs : List Int32) : MetFree l x (headSpec (Jvm.Cond.code x code maxLocals ret :: tables_1) room_1) (lw_P b xs) (fun _ _ _ _ _ => True) lw_Q := by
  refine MetFree.of_bodyS (code := code) (maxLocals := maxLocals) (ret := ret) (by decide) ?_ ?_
  · intro args s m h hn
    obtain ⟨meth, c, h1, h2, h3, h4, h5, h6, -, -⟩ := Cond.code_spec hn (atoms_spec (ws := Jvm.Cond.code x code maxLocals ret :: tables_1) h _ List.mem_cons_self)
    exact ⟨meth, c, h1, h2, h3, h4, h5, h6⟩
  · intro p e s m args below meth c s₁ B hml0 hP _
    obtain ⟨rfl, hx, hbd, hgv⟩ := hP
    obtain ⟨scr, harrAt, hlist, hof, hsmall⟩ := hx
    obtain ⟨hcb, hkn, -, -⟩ := State.arrayAt?_spec harrAt
    have hown : s.vm.findClass R_law = some m.cls := findClass_of_methodNamed B.named
    have hts0 : ∀ c ∈ (Jvm.Cond.code x code maxLocals ret :: tables_1), c.before #[Value.ref b] s = true := atoms_spec (ws := Jvm.Cond.code x code maxLocals ret :: tables_1) B.pre
    have hts : ∀ w ∈ lw_tbl, w.before #[Value.ref b] s = true := k2_hts_sels lw_privs (fun w hw => hts0 w (List.mem_cons_of_mem _ hw)) lw_privs_ok
    have hml : c.maxLocals = 7 := B.maxLocals_eq (hts0 _ List.mem_cons_self)
    have X₀ : Stand p l e room_1 s m #[Value.ref b] below meth c s₁ [] 0 0 := Stand.of_body B
    have hh0 : s₁.heap = s.heap := by rw [B.state]; rfl
    have hsz : scr.slots.size = xs.length := by rw [← Array.length_toList, hlist, List.length_map]
    have hval : ∀ j : Nat, j < xs.length → scr.slots[j]? = some (.int (xs.getD j 0)) := fun j hj => by
      rw [← Array.getElem?_toList, hlist]
      simp [hj]
    have hbl : b < s.heap.size := (Array.getElem?_eq_some_iff.mp hcb).1
    have hX : va_X b xs.length (fun j => xs.getD j 0) s s.heap := ⟨scr, hcb, hof, hkn, hsz, hval⟩
    have K : W p l e room_1 s m #[Value.ref b] below meth c s₁.heap [] 0 0 (lw_Z below #[Value.ref b] s) (entryFrame m ([Value.ref b] : List Value).toArray 7) := by
      rw [hh0]
      exact whole_start l hl9 hbd ⟨B.exec, B.bytes, B.returns, hml, hown, hts, hX, hbl, B.notSynchronized, hgv⟩
    obtain ⟨t, a1, o, b1, b2, b3⟩ := K s₁ rfl X₀
    exact ⟨t, o, a1, b1, b2, b3⟩
theorem lw_pre_spec {args : Array Value} {s : State} (h : (Jvm.Cond.and given_1 narrow_1).before args s = true) (hr : rest_1_c.before args s = true) : ∃ (b : Addr) (xs : List Int32), lw_P b xs args s := by
  have hs := flat_of_before _ h
  have hq := flat_of_before _ hr
  have hc : (Cond.count 1).before args s = true := hs _ (by decide +kernel)
  have harr : (Cond.arrayOf (.arg 0) .int).before args s = true := hs _ (by decide +kernel)
  have hle : (Cond.le (.length (.arg 0)) (.int 3072)).before args s = true := hs _ (by decide +kernel)
  have hlen : (Cond.isInt (.length (.arg 0))).before args s = true := hq _ (by decide +kernel)
  have hall : (Cond.all (.arg 0) (.isInt (.elem (.arg 0) (.index 0)))).before args s = true := hq _ (by decide +kernel)
  obtain ⟨b, xs, hb, hx⟩ := State.ints_of_pre rfl harr hlen hall
  have hsm : xs.length < 2 ^ 31 := hx.choose_spec.2.2.2
  have hev : (Term.length (.arg 0)).eval args s none [] s = some (.int xs.length.toInt32) := hx.length_eval hb
  have hv := Cond.le_ints hev (show (Term.int 3072).eval args s none [] s = some (.int 3072) from rfl)
  have hd : xs.length.toInt32 ≤ 3072 := by
    simpa [Cond.before, Cond.holds, hv] using hle
  have hN : xs.length ≤ 3072 := (Int32.ofNat_le_ofNat hsm (by decide)).mp (show Int32.ofNat xs.length ≤ Int32.ofNat 3072 from hd)
  exact ⟨b, xs, Cond.one_arg hc (show args[0]? = some (.ref b) from hb), hx, hN, h⟩
theorem lw_comes (l : Launch) (hl9 : l.stackTraces = false) : Comes l x (Jvm.Cond.code x code maxLocals ret :: tables_1) room_1 (fun tb e args s => Calls_1 tb e args s ∧ rest_1 tb e args s ∧ Pre_1 tb e args s)
    (fun _ _ args s o t => lw_Q args s o t) := by
  intro p e ha hc hk s m args below hf hfit hheap happ hpre
  obtain ⟨b, xs, hP⟩ := lw_pre_spec hpre.2.2 hpre.2.1
  obtain ⟨k, o, h1, h2, h3, hQ⟩ := lw_walk l hl9 b xs p e ha hc hk s m args below hf ((Spec.applies_iff_loose hf).mp happ).1 hP trivial
  exact ⟨k, o, h1, h2, h3, hQ⟩
theorem lw_frame {s t : State} {o : Outcome} {args : Array Value} (h : Framed s o t [] 601024 7293034) :
    Framed s o t (fieldLocs frame_1_writes args s ++ arrayLocs frame_1_arrays args s ++ staticLocs frame_1_statics s) 601024 7293034 := h
theorem lw_limb (L : Cond) (hL : ∀ (args : Array Value) (s t : State), L.after args s (.returned (some (.int 1))) t = true) :
    ArmFor flags0 classFile x code maxLocals ret World_1 tables_1 room_1 Calls_1 rest_1 Pre_1
      (fun tb e a s o t => postC L tb e a s o t ∧ Framed s o t (fieldLocs frame_1_writes a s ++ arrayLocs frame_1_arrays a s ++ staticLocs frame_1_statics s) 601024 7293034) := by
  intro l hfl _ _ p e ha hc hk s m args below hf hfit hheap happ hpre
  have hl9 : l.stackTraces = false := by unfold Launch.stackTraces; rw [hfl]; decide
  obtain ⟨k, o, h1, h2, h3, rfl, hF⟩ := lw_comes l hl9 p e ha hc hk s m args below hf hfit hheap happ hpre
  exact ⟨k, _, h1, h2, h3, hL args s _, lw_frame hF⟩
theorem i_vc : Claimed_1_1 ∧ Claimed_1_2 := ⟨lw_limb limb_1_1 (fun args s t => by simp [limb_1_1, Cond.after, Cond.holds, Cond.value]), lw_limb limb_1_2 (fun args s t => Cond.after_iff.mpr (by
  first | (rw [show limb_1_2 = Cond.eq .result (.int 1) from rfl, Cond.eq_ints (x := 1) (y := 1) rfl rfl]; simp; done) | (simp [limb_1_2, Cond.value, Term.eval]; done)))⟩
end
