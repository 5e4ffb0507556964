/-! the law's own state: class, reference and the array for an answer -/
def pl_St (D : va_G) (s : State) (a0 af ab : Nat) (o ar : Nat → Nat) (cI cO : ClassId) (m0 : Nat) (ad : Nat → Nat) (qo : Nat) (cL : ClassId) (H : Heap) (locs : List Loc) : Prop :=
  ∃ (fd : Nat → Int32) (nf : Nat) (sg : Nat → Nat) (nb lw : Nat) (aw : Int32) (tm : Nat) (G : Nat → px_G) (B : Nat → Nat → Int32) (cd : Int32) (me sc gl nu si wh pl : Nat → Int32) (sm ms mg mn mk : Int32) (md : Nat → Int32) (f : Nat → Int64),
    tm ≤ 1000000000 ∧ pr_F fd nf me ∧ pr_W sg nb lw G B sc gl nu si wh pl ∧ pr_L lw aw G B sm ms mg mn mk md ∧
    pw_S D (px_T cI cO ++ [(cL, .long)]) (fun q => s.heap.size ≤ q) (pm_W m0 ad cI cd tm nf me nb sc gl nu si wh pl sm ms mg mn mk md ++ (px_W a0 af ab o ar cI cO fd nf sg nb lw aw tm G B ++ [(qo, .inl (cL, 1, .inr (.inl f)))])) s H locs
theorem pl_cmp (x : Int64) : lg_cmp x x = 0 := by
  have h : ¬ x < x := by rw [Int64.lt_iff_toInt_lt]; omega
  simp [lg_cmp, h]
section PL
variable {p : Program} {l : Launch} {e : Env} {R : Room} {s : State} {m : MethodId} {args : Array Value} {below : List Frame} {meth : Method} {c : Code} {H : Heap} {locs : List Loc} {cells slots : Nat} {Q : State → Prop} {pc : Nat} {ls : Array Slot} {rest : List Value} {cc : ByteArray} {nL : Nat} {own : String} {D : va_G} {tys : List (ClassId × FieldType)} {A : Nat → Prop} {ws ws' : va_W}
theorem pw_sld (S : pw_Fx p m c cc nL s args own) (w : pw_S D tys (fun q => s.heap.size ≤ q) ws s H locs) {b L : Nat} {xs : Nat → Int32} (hX : va_X b L xs s s.heap) (hbl : b < s.heap.size) {j : Nat} (hj : j < L) (hL : L ≤ 3072) (hdg : decode cc pc = .ok (.iaload, 1))
    (kk : W p l e R s m args below meth c H locs cells slots Q (F0 m (pc + 1) ls (.int (xs j) :: rest))) : W p l e R s m args below meth c H locs cells slots Q (F0 m pc ls (.int (nI j) :: .ref b :: rest)) := by
  refine va_sld S.1 S.2.1 hX hbl (Nat.not_le.mpr hbl) w.2.2.2.1 (vp_in_nI hj (by omega)) hdg ?_
  rw [nI_clamp (by omega)]
  exact kk
theorem pw_perm (h : ws.Perm ws') (w : pw_S D tys A ws s H locs) : pw_S D tys A ws' s H locs := by
  refine ⟨w.1, pw_P.mpr (fun q hq => pw_P.mp w.2.1 q (h.mem_iff.mpr hq)), pw_D.mpr ⟨?_, fun q hq => (pw_D.mp w.2.2.1).2 q (h.mem_iff.mpr hq)⟩, w.2.2.2⟩
  exact (h.map Prod.fst).nodup_iff.mp (pw_D.mp w.2.2.1).1
end PL
