set_option maxHeartbeats 4000000 in
set_option maxRecDepth 100000 in
/-- the law's case: pass -/
theorem pl_k_pass {p : Program} {l : Launch} {e : Env} {s : State} {m : MethodId} {below : List Frame} {meth : Method} {c : Code} {b L : Nat} {xs : Nat → Int32} {D : va_G} {a0 af ab : Nat} {o ar : Nat → Nat} {cI cO : ClassId} {m0 : Nat} {ad : Nat → Nat} {qo : Nat} {cL : ClassId} {H : Heap} {locs : List Loc} {ls : Array Slot} {cells slots i : Nat} {Q : State → Prop}
    (hl9 : l.stackTraces = false) (S : pw_Fx p m c cL_law 7 s #[Value.ref b] RL) (hX : va_X b L xs s s.heap) (hbl : b < s.heap.size) (hL : L ≤ 3072) (hi : i + 6 ≤ L) (hc : cells + 1 ≤ 601024) (hs : slots + 6 ≤ 7293034) (st : pl_St D s a0 af ab o ar cI cO m0 ad qo cL H locs) (hl : lv_has ls 7 [(0, .ref b), (1, .ref a0), (2, .ref m0), (3, .ref qo), (4, .int (nI i))])
    (kk : ∀ (H1 : Heap) (locs1 : List Loc) (ls1 : Array Slot), pl_St D s a0 af ab o ar cI cO m0 ad qo cL H1 locs1 → lv_has ls1 7 [(0, .ref b), (1, .ref a0), (2, .ref m0), (3, .ref qo), (4, .int (nI i))] → W p l e room_1 s m #[Value.ref b] below meth c H1 locs1 (cells + 1) (slots + 6) Q (F0 m 583 ls1 [])) :
    W p l e room_1 s m #[Value.ref b] below meth c H locs cells slots Q (F0 m 292 ls []) := by
  obtain ⟨fd, nf, sg, nb, lw, aw, tm, G, B, cd, me, sc, gl, nu, si, wh, pl, sm, ms, mg, mn, mk, md, f, htm, hF, hW, hLs, w⟩ := st
  obtain ⟨hx, hb, hml, hown, hts⟩ := id S
  refine lv_aload_n hx hb dL_law_292 rfl (lv_at hl 1 rfl) ?_
  refine lv_aload_n hx hb dL_law_293 rfl (lv_at hl 0 rfl) ?_
  refine lv_iload hx hb dL_law_294 (lv_at hl 4 rfl) ?_
  refine lv_iconst (v := 1) hx hb dL_law_296 (by decide) ?_
  refine lv_iadd hx hb dL_law_297 ?_
  refine pw_top (y := nI (i + 1)) (nI_add i 1) ?_
  refine pw_sld S w hX hbl (j := (i + 1)) (by omega) hL dL_law_298 ?_
  refine lv_aload_n hx hb dL_law_299 rfl (lv_at hl 3 rfl) ?_
  have w1 : pw_S D (px_T cI cO ++ [(cL, .long)]) (fun q => s.heap.size ≤ q) (pm_W m0 ad cI cd tm nf me nb sc gl nu si wh pl sm ms mg mn mk md ++ ((px_W a0 af ab o ar cI cO fd nf sg nb lw aw tm G B ++ [(qo, .inl (cL, 1, .inr (.inl f)))]) ++ [])) s _ _ := w.to (by rw [List.append_nil])
  refine pw_goi w1 (vx_runSW (As := [.ref a0, .int (xs (i + 1)), .ref qo]) (rest := []) S (pl_c_pass l D a0 af ab o ar cI cO fd nf sg nb lw aw tm G B _ qo cL f hl9 htm hW.1 hW.2.1.1 (xs (i + 1))) (pw_cW (n := 3) S eL_53 tL_pass iniL kL_pass rfl rfl (by decide +kernel) ⟨by decide, by decide⟩) ⟨pw_blind, pw_pre w1 w1.1⟩ rfl rfl hl.1 rfl (lv_room (Nat.le_of_ble_eq_true rfl)) dL_law_300 ⟨hc, hs⟩) (fun k u H locs hp w => ?_)
  clear w1
  obtain ⟨x9, f1⟩ := u
  cases x9 with
  | none =>
    have w : pw_S D (px_T cI cO ++ [(cL, .long)]) (fun q => s.heap.size ≤ q) (pm_W m0 ad cI cd tm nf me nb sc gl nu si wh pl sm ms mg mn mk md ++ ((px_W a0 af ab o ar cI cO fd nf sg nb lw aw tm G B ++ [(qo, .inl (cL, 1, .inr (.inl f1)))]) ++ [])) s _ _ := w
    have w : pw_S D (px_T cI cO ++ [(cL, .long)]) (fun q => s.heap.size ≤ q) (pm_W m0 ad cI cd tm nf me nb sc gl nu si wh pl sm ms mg mn mk md ++ (px_W a0 af ab o ar cI cO fd nf sg nb lw aw tm G B ++ [(qo, .inl (cL, 1, .inr (.inl f1)))])) s _ _ := w.to (by rw [List.append_nil])
    have hp : (k = 1 ∧ ¬ (0 ≤ (xs (i + 1)).toInt ∧ (xs (i + 1)).toInt ≤ 1000000)) ∨ (k = 2 ∧ (0 ≤ (xs (i + 1)).toInt ∧ (xs (i + 1)).toInt ≤ 1000000) ∧ 1000000000 < (tm : Int) + (xs (i + 1)).toInt) := hp
    have hk0 : ¬ k = 0 := by rcases hp with ⟨rfl, -⟩ | ⟨rfl, -⟩ <;> decide
    refine lv_istore (lv' := [(5, .int k), (0, .ref b), (1, .ref a0), (2, .ref m0), (3, .ref qo), (4, .int (nI i))]) hx hb dL_law_303 hl (by decide) rfl (fun ls hl => ?_)
    refine lv_aload_n hx hb dL_law_305 rfl (lv_at hl 3 rfl) ?_
    refine lv_aload_n hx hb dL_law_306 rfl (lv_at hl 1 rfl) ?_
    refine lv_iload hx hb dL_law_307 (lv_at hl 5 rfl) ?_
    refine lv_iconst (v := 1) hx hb dL_law_309 (by decide) ?_
    refine lv_iadd hx hb dL_law_310 ?_
    refine pw_top (y := nI (i + 1)) (nI_add i 1) ?_
    refine pw_sld S w hX hbl (j := (i + 1)) (by omega) hL dL_law_311 ?_
    have w : pw_S D (px_T cI cO ++ [(cL, .long)]) (fun q => s.heap.size ≤ q) ([] ++ (pm_W m0 ad cI cd tm nf me nb sc gl nu si wh pl sm ms mg mn mk md ++ (px_W a0 af ab o ar cI cO fd nf sg nb lw aw tm G B ++ [(qo, .inl (cL, 1, .inr (.inl f1)))]))) s _ _ := w
    refine pw_goi0 w (va_runV (C := RM) (As := [.int (xs (i + 1))]) (rest := []) S (pm_c_pass l D m0 ad cI cd tm nf me nb sc gl nu si wh pl sm ms mg mn mk md _ htm hW.1 (xs (i + 1))) (pw_cw (n := 1) S eL_56 iM_pass sM_pass iniM kM_pass rfl rfl (by decide +kernel) ⟨by decide, by decide⟩) ⟨pw_blind, va_recv w.1 w.2.1 (ci := cM) (q0 := 0) rfl rfl, pw_pre w (w.1.sub [0] rfl)⟩ rfl rfl hl.1 rfl (lv_room (Nat.le_of_ble_eq_true rfl)) dL_law_312 ⟨hc, hs⟩) (fun r2 u2 H locs hp2 w => ?_)
    have key : u2 = (k, tm, nb, sc, gl, nu, si, wh, pl) := by
      rcases hp with ⟨rfl, h1⟩ | ⟨rfl, h1, h2⟩ <;> rcases hp2 with ⟨h3, h4⟩ | ⟨h3, h4, h5⟩ | ⟨n9, g1, g2, g3, -⟩
      · exact h3
      · exact absurd h4 h1
      · exact absurd (by rw [g2, nI_toInt (by omega)]; omega) h1
      · exact absurd h1 h4
      · exact h3
      · exact absurd h2 (by rw [g2, nI_toInt (by omega)]; omega)
    subst key
    refine lv_istore (lv' := [(6, .int r2), (5, .int k), (0, .ref b), (1, .ref a0), (2, .ref m0), (3, .ref qo), (4, .int (nI i))]) hx hb dL_law_315 hl (by decide) rfl (fun ls hl => ?_)
    refine lv_aload_n hx hb dL_law_317 rfl (lv_at hl 4 rfl) ?_
    have w : pw_S D (px_T cI cO ++ [(cL, .long)]) (fun q => s.heap.size ≤ q) ([] ++ (pm_W m0 ad cI k tm nf me nb sc gl nu si wh pl sm ms mg mn mk md ++ (px_W a0 af ab o ar cI cO fd nf sg nb lw aw tm G B ++ [(qo, .inl (cL, 1, .inr (.inl f1)))]))) s _ _ := w
    refine pw_goi0 w (va_runV (C := RM) (As := []) (rest := []) S (pm_c_thrown l D m0 ad cI k tm nf me nb sc gl nu si wh pl sm ms mg mn mk md _ ) (pw_cw (n := 0) S eL_45 iM_thrown sM_thrown iniM kM_thrown rfl rfl (by decide +kernel) ⟨by decide, by decide⟩) ⟨pw_blind, va_recv w.1 w.2.1 (ci := cM) (q0 := 0) rfl rfl, pw_pre w (w.1.sub [0] rfl)⟩ rfl rfl hl.1 rfl (lv_room (Nat.le_of_ble_eq_true rfl)) dL_law_318 ⟨hc, hs⟩) (fun r3 _ H locs hp3 w => ?_)
    have w : pw_S D (px_T cI cO ++ [(cL, .long)]) (fun q => s.heap.size ≤ q) ((pm_W m0 ad cI k tm nf me nb sc gl nu si wh pl sm ms mg mn mk md ++ (px_W a0 af ab o ar cI cO fd nf sg nb lw aw tm G B ++ [(qo, .inl (cL, 1, .inr (.inl f1)))]))) s _ _ := w
    refine lv_iload hx hb dL_law_321 (lv_at hl 1 rfl) ?_
    refine lv_icmp_eq (tgt := 328) hx hb dL_law_323 (by decide) (fun _ => ?_) (fun h9 => absurd hp3 h9)
    refine lv_iload hx hb dL_law_328 (lv_at hl 1 rfl) ?_
    refine lv_if_ne (tgt := 345) hx hb dL_law_330 (by decide) (fun _ => ?_) (fun h9 => absurd h9 hk0)
    refine lv_goto (tgt := 583) hx hb dL_law_345 (by decide) ?_
    exact kk _ _ _ ⟨fd, nf, sg, nb, lw, aw, tm, G, B, k, me, sc, gl, nu, si, wh, pl, sm, ms, mg, mn, mk, md, f1, htm, hF, hW, hLs, w⟩ (lv_sub hl [2, 3, 4, 5, 6] rfl)
  | some u1 =>
    obtain ⟨rfl, r, ⟨q1, q2, q3, q4⟩, hf1⟩ := hp
    have w : pw_S D (px_T cI cO ++ [(cL, .long)]) (fun q => s.heap.size ≤ q) (pm_W m0 ad cI cd tm nf me nb sc gl nu si wh pl sm ms mg mn mk md ++ ((px_W a0 af ab o ar cI cO fd nf ((px_gv (tm + u1) G 4 sg nb).1) ((px_gv (tm + u1) G 4 sg nb).2) lw aw (tm + u1) G B ++ [(qo, .inl (cL, 1, .inr (.inl f1)))]) ++ [])) s _ _ := w
    have w : pw_S D (px_T cI cO ++ [(cL, .long)]) (fun q => s.heap.size ≤ q) (pm_W m0 ad cI cd tm nf me nb sc gl nu si wh pl sm ms mg mn mk md ++ (px_W a0 af ab o ar cI cO fd nf ((px_gv (tm + u1) G 4 sg nb).1) ((px_gv (tm + u1) G 4 sg nb).2) lw aw (tm + u1) G B ++ [(qo, .inl (cL, 1, .inr (.inl f1)))])) s _ _ := w.to (by rw [List.append_nil])
    dsimp only at hf1
    refine lv_istore (lv' := [(5, .int 0), (0, .ref b), (1, .ref a0), (2, .ref m0), (3, .ref qo), (4, .int (nI i))]) hx hb dL_law_303 hl (by decide) rfl (fun ls hl => ?_)
    refine lv_aload_n hx hb dL_law_305 rfl (lv_at hl 3 rfl) ?_
    refine lv_aload_n hx hb dL_law_306 rfl (lv_at hl 1 rfl) ?_
    refine lv_iload hx hb dL_law_307 (lv_at hl 5 rfl) ?_
    refine lv_iconst (v := 1) hx hb dL_law_309 (by decide) ?_
    refine lv_iadd hx hb dL_law_310 ?_
    refine pw_top (y := nI (i + 1)) (nI_add i 1) ?_
    refine pw_sld S w hX hbl (j := (i + 1)) (by omega) hL dL_law_311 ?_
    have w : pw_S D (px_T cI cO ++ [(cL, .long)]) (fun q => s.heap.size ≤ q) ([] ++ (pm_W m0 ad cI cd tm nf me nb sc gl nu si wh pl sm ms mg mn mk md ++ (px_W a0 af ab o ar cI cO fd nf ((px_gv (tm + u1) G 4 sg nb).1) ((px_gv (tm + u1) G 4 sg nb).2) lw aw (tm + u1) G B ++ [(qo, .inl (cL, 1, .inr (.inl f1)))]))) s _ _ := w
    refine pw_goi0 w (va_runV (C := RM) (As := [.int (xs (i + 1))]) (rest := []) S (pm_c_pass l D m0 ad cI cd tm nf me nb sc gl nu si wh pl sm ms mg mn mk md _ htm hW.1 (xs (i + 1))) (pw_cw (n := 1) S eL_56 iM_pass sM_pass iniM kM_pass rfl rfl (by decide +kernel) ⟨by decide, by decide⟩) ⟨pw_blind, va_recv w.1 w.2.1 (ci := cM) (q0 := 0) rfl rfl, pw_pre w (w.1.sub [0] rfl)⟩ rfl rfl hl.1 rfl (lv_room (Nat.le_of_ble_eq_true rfl)) dL_law_312 ⟨hc, hs⟩) (fun r2 u2 H locs hp2 w => ?_)
    have hni : (xs (i + 1)).toInt = u1 := by rw [q2, nI_toInt (by omega)]
    have key : u2 = (0, tm + u1, pm_gv (tm + u1) nb nb sc gl nu si wh pl) ∧ r2 = nI (nb - (pm_gv (tm + u1) nb nb sc gl nu si wh pl).1) := by
      rcases hp2 with ⟨h3, h4⟩ | ⟨h3, h4, h5⟩ | ⟨n9, g1, g2, g3, g4, g5⟩
      · exact absurd (by rw [hni]; omega) h4
      · rw [hni] at h5; omega
      · have e9 : n9 = u1 := (nI_eq (by omega) (by omega)).mp (g2.symm.trans q2)
        subst e9
        exact ⟨g4, g5⟩
    obtain ⟨rfl, hr2⟩ := key
    obtain ⟨t1, t2⟩ := pr_gv (tm := tm + u1) 4 nb nb sg sc gl nu si wh pl hW hW.1 (Nat.le_refl nb)
    have hans : f1 0 = r2.toInt64 := by rw [hf1, q4, hr2, t1]
    have w : pw_S D (px_T cI cO ++ [(cL, .long)]) (fun q => s.heap.size ≤ q) (pm_W m0 ad cI 0 (tm + u1) nf me ((pm_gv (tm + u1) nb nb sc gl nu si wh pl).1) ((pm_gv (tm + u1) nb nb sc gl nu si wh pl).2.1) ((pm_gv (tm + u1) nb nb sc gl nu si wh pl).2.2.1) ((pm_gv (tm + u1) nb nb sc gl nu si wh pl).2.2.2.1) ((pm_gv (tm + u1) nb nb sc gl nu si wh pl).2.2.2.2.1) ((pm_gv (tm + u1) nb nb sc gl nu si wh pl).2.2.2.2.2.1) ((pm_gv (tm + u1) nb nb sc gl nu si wh pl).2.2.2.2.2.2) sm ms mg mn mk md ++ (px_W a0 af ab o ar cI cO fd nf ((px_gv (tm + u1) G 4 sg nb).1) ((px_gv (tm + u1) G 4 sg nb).2) lw aw (tm + u1) G B ++ [(qo, .inl (cL, 1, .inr (.inl f1)))])) s _ _ := w
    rw [← t1] at w
    refine lv_istore (lv' := [(6, .int r2), (5, .int 0), (0, .ref b), (1, .ref a0), (2, .ref m0), (3, .ref qo), (4, .int (nI i))]) hx hb dL_law_315 hl (by decide) rfl (fun ls hl => ?_)
    refine lv_aload_n hx hb dL_law_317 rfl (lv_at hl 4 rfl) ?_
    have w : pw_S D (px_T cI cO ++ [(cL, .long)]) (fun q => s.heap.size ≤ q) ([] ++ (pm_W m0 ad cI 0 (tm + u1) nf me ((px_gv (tm + u1) G 4 sg nb).2) ((pm_gv (tm + u1) nb nb sc gl nu si wh pl).2.1) ((pm_gv (tm + u1) nb nb sc gl nu si wh pl).2.2.1) ((pm_gv (tm + u1) nb nb sc gl nu si wh pl).2.2.2.1) ((pm_gv (tm + u1) nb nb sc gl nu si wh pl).2.2.2.2.1) ((pm_gv (tm + u1) nb nb sc gl nu si wh pl).2.2.2.2.2.1) ((pm_gv (tm + u1) nb nb sc gl nu si wh pl).2.2.2.2.2.2) sm ms mg mn mk md ++ (px_W a0 af ab o ar cI cO fd nf ((px_gv (tm + u1) G 4 sg nb).1) ((px_gv (tm + u1) G 4 sg nb).2) lw aw (tm + u1) G B ++ [(qo, .inl (cL, 1, .inr (.inl f1)))]))) s _ _ := w
    refine pw_goi0 w (va_runV (C := RM) (As := []) (rest := []) S (pm_c_thrown l D m0 ad cI 0 (tm + u1) nf me ((px_gv (tm + u1) G 4 sg nb).2) ((pm_gv (tm + u1) nb nb sc gl nu si wh pl).2.1) ((pm_gv (tm + u1) nb nb sc gl nu si wh pl).2.2.1) ((pm_gv (tm + u1) nb nb sc gl nu si wh pl).2.2.2.1) ((pm_gv (tm + u1) nb nb sc gl nu si wh pl).2.2.2.2.1) ((pm_gv (tm + u1) nb nb sc gl nu si wh pl).2.2.2.2.2.1) ((pm_gv (tm + u1) nb nb sc gl nu si wh pl).2.2.2.2.2.2) sm ms mg mn mk md _ ) (pw_cw (n := 0) S eL_45 iM_thrown sM_thrown iniM kM_thrown rfl rfl (by decide +kernel) ⟨by decide, by decide⟩) ⟨pw_blind, va_recv w.1 w.2.1 (ci := cM) (q0 := 0) rfl rfl, pw_pre w (w.1.sub [0] rfl)⟩ rfl rfl hl.1 rfl (lv_room (Nat.le_of_ble_eq_true rfl)) dL_law_318 ⟨hc, hs⟩) (fun r3 _ H locs hp3 w => ?_)
    have w : pw_S D (px_T cI cO ++ [(cL, .long)]) (fun q => s.heap.size ≤ q) ((pm_W m0 ad cI 0 (tm + u1) nf me ((px_gv (tm + u1) G 4 sg nb).2) ((pm_gv (tm + u1) nb nb sc gl nu si wh pl).2.1) ((pm_gv (tm + u1) nb nb sc gl nu si wh pl).2.2.1) ((pm_gv (tm + u1) nb nb sc gl nu si wh pl).2.2.2.1) ((pm_gv (tm + u1) nb nb sc gl nu si wh pl).2.2.2.2.1) ((pm_gv (tm + u1) nb nb sc gl nu si wh pl).2.2.2.2.2.1) ((pm_gv (tm + u1) nb nb sc gl nu si wh pl).2.2.2.2.2.2) sm ms mg mn mk md ++ (px_W a0 af ab o ar cI cO fd nf ((px_gv (tm + u1) G 4 sg nb).1) ((px_gv (tm + u1) G 4 sg nb).2) lw aw (tm + u1) G B ++ [(qo, .inl (cL, 1, .inr (.inl f1)))]))) s _ _ := w
    refine lv_iload hx hb dL_law_321 (lv_at hl 1 rfl) ?_
    refine lv_icmp_eq (tgt := 328) hx hb dL_law_323 (by decide) (fun _ => ?_) (fun h9 => absurd hp3 h9)
    refine lv_iload hx hb dL_law_328 (lv_at hl 1 rfl) ?_
    refine lv_if_ne (tgt := 345) hx hb dL_law_330 (by decide) (fun h9 => absurd rfl h9) (fun _ => ?_)
    refine lv_aload_n hx hb dL_law_333 rfl (lv_at hl 5 rfl) ?_
    refine lv_iconst (v := 0) hx hb dL_law_334 (by decide) ?_
    refine pw_lald S w 22 2 (x := qo) (f := f1) (n := 1) (cA := cL) rfl rfl (j := 0) (by decide) (by decide) dL_law_335 ?_
    refine lv_iload hx hb dL_law_336 (lv_at hl 0 rfl) ?_
    refine lv_i2l hx hb dL_law_338 rfl ?_
    refine W.lcmp hx hb dL_law_339 ?_
    refine lv_if_eq (tgt := 345) hx hb dL_law_340 (by decide) (fun _ => ?_) (fun h9 => absurd (by rw [hans]; exact pl_cmp _) h9)
    refine lv_goto (tgt := 583) hx hb dL_law_345 (by decide) ?_
    exact kk _ _ _ ⟨fd, nf, _, _, lw, aw, (tm + u1), G, B, 0, me, _, _, _, _, _, _, sm, ms, mg, mn, mk, md, f1, by omega, hF, t2, hLs, w⟩ (lv_sub hl [2, 3, 4, 5, 6] rfl)

set_option maxHeartbeats 4000000 in
set_option maxRecDepth 100000 in
/-- the law's case: about -/
theorem pl_k_about {p : Program} {l : Launch} {e : Env} {s : State} {m : MethodId} {below : List Frame} {meth : Method} {c : Code} {b L : Nat} {xs : Nat → Int32} {D : va_G} {a0 af ab : Nat} {o ar : Nat → Nat} {cI cO : ClassId} {m0 : Nat} {ad : Nat → Nat} {qo : Nat} {cL : ClassId} {H : Heap} {locs : List Loc} {ls : Array Slot} {cells slots i : Nat} {Q : State → Prop}
    (hl9 : l.stackTraces = false) (S : pw_Fx p m c cL_law 7 s #[Value.ref b] RL) (hX : va_X b L xs s s.heap) (hbl : b < s.heap.size) (hL : L ≤ 3072) (hi : i + 6 ≤ L) (hc : cells + 1 ≤ 601024) (hs : slots + 6 ≤ 7293034) (st : pl_St D s a0 af ab o ar cI cO m0 ad qo cL H locs) (hl : lv_has ls 7 [(0, .ref b), (1, .ref a0), (2, .ref m0), (3, .ref qo), (4, .int (nI i))])
    (kk : ∀ (H1 : Heap) (locs1 : List Loc) (ls1 : Array Slot), pl_St D s a0 af ab o ar cI cO m0 ad qo cL H1 locs1 → lv_has ls1 7 [(0, .ref b), (1, .ref a0), (2, .ref m0), (3, .ref qo), (4, .int (nI i))] → W p l e room_1 s m #[Value.ref b] below meth c H1 locs1 (cells + 1) (slots + 6) Q (F0 m 583 ls1 [])) :
    W p l e room_1 s m #[Value.ref b] below meth c H locs cells slots Q (F0 m 348 ls []) := by
  obtain ⟨fd, nf, sg, nb, lw, aw, tm, G, B, cd, me, sc, gl, nu, si, wh, pl, sm, ms, mg, mn, mk, md, f, htm, hF, hW, hLs, w⟩ := st
  obtain ⟨hx, hb, hml, hown, hts⟩ := id S
  refine lv_aload_n hx hb dL_law_348 rfl (lv_at hl 1 rfl) ?_
  refine lv_aload_n hx hb dL_law_349 rfl (lv_at hl 0 rfl) ?_
  refine lv_iload hx hb dL_law_350 (lv_at hl 4 rfl) ?_
  refine lv_iconst (v := 1) hx hb dL_law_352 (by decide) ?_
  refine lv_iadd hx hb dL_law_353 ?_
  refine pw_top (y := nI (i + 1)) (nI_add i 1) ?_
  refine pw_sld S w hX hbl (j := (i + 1)) (by omega) hL dL_law_354 ?_
  refine lv_aload_n hx hb dL_law_355 rfl (lv_at hl 3 rfl) ?_
  have w1 : pw_S D (px_T cI cO ++ [(cL, .long)]) (fun q => s.heap.size ≤ q) (pm_W m0 ad cI cd tm nf me nb sc gl nu si wh pl sm ms mg mn mk md ++ ((px_W a0 af ab o ar cI cO fd nf sg nb lw aw tm G B ++ [(qo, .inl (cL, 1, .inr (.inl f)))]) ++ [])) s _ _ := w.to (by rw [List.append_nil])
  refine pw_goi w1 (vx_runSW (As := [.ref a0, .int (xs (i + 1)), .ref qo]) (rest := []) S (pl_c_about l D a0 af ab o ar cI cO fd nf sg nb lw aw tm G B _ qo cL f hl9 hW.2.1.2.1 (xs (i + 1))) (pw_cW (n := 3) S eL_57 tL_about iniL kL_about rfl rfl (by decide +kernel) ⟨by decide, by decide⟩) ⟨pw_blind, pw_pre w1 w1.1⟩ rfl rfl hl.1 rfl (lv_room (Nat.le_of_ble_eq_true rfl)) dL_law_356 ⟨hc, hs⟩) (fun k u H locs hp w => ?_)
  clear w1
  obtain ⟨x9, f1⟩ := u
  cases x9 with
  | none =>
    have w : pw_S D (px_T cI cO ++ [(cL, .long)]) (fun q => s.heap.size ≤ q) (pm_W m0 ad cI cd tm nf me nb sc gl nu si wh pl sm ms mg mn mk md ++ ((px_W a0 af ab o ar cI cO fd nf sg nb lw aw tm G B ++ [(qo, .inl (cL, 1, .inr (.inl f1)))]) ++ [])) s _ _ := w
    have w : pw_S D (px_T cI cO ++ [(cL, .long)]) (fun q => s.heap.size ≤ q) (pm_W m0 ad cI cd tm nf me nb sc gl nu si wh pl sm ms mg mn mk md ++ (px_W a0 af ab o ar cI cO fd nf sg nb lw aw tm G B ++ [(qo, .inl (cL, 1, .inr (.inl f1)))])) s _ _ := w.to (by rw [List.append_nil])
    have hp : (k = 1 ∧ ¬ (0 ≤ (xs (i + 1)).toInt ∧ (xs (i + 1)).toInt ≤ 3)) ∨ (k = 2 ∧ (0 ≤ (xs (i + 1)).toInt ∧ (xs (i + 1)).toInt ≤ 3) ∧ aw = 0) := hp
    have hk0 : ¬ k = 0 := by rcases hp with ⟨rfl, -⟩ | ⟨rfl, -⟩ <;> decide
    refine lv_istore (lv' := [(5, .int k), (0, .ref b), (1, .ref a0), (2, .ref m0), (3, .ref qo), (4, .int (nI i))]) hx hb dL_law_359 hl (by decide) rfl (fun ls hl => ?_)
    refine lv_aload_n hx hb dL_law_361 rfl (lv_at hl 3 rfl) ?_
    refine lv_aload_n hx hb dL_law_362 rfl (lv_at hl 1 rfl) ?_
    refine lv_iload hx hb dL_law_363 (lv_at hl 5 rfl) ?_
    refine lv_iconst (v := 1) hx hb dL_law_365 (by decide) ?_
    refine lv_iadd hx hb dL_law_366 ?_
    refine pw_top (y := nI (i + 1)) (nI_add i 1) ?_
    refine pw_sld S w hX hbl (j := (i + 1)) (by omega) hL dL_law_367 ?_
    have w : pw_S D (px_T cI cO ++ [(cL, .long)]) (fun q => s.heap.size ≤ q) ([] ++ (pm_W m0 ad cI cd tm nf me nb sc gl nu si wh pl sm ms mg mn mk md ++ (px_W a0 af ab o ar cI cO fd nf sg nb lw aw tm G B ++ [(qo, .inl (cL, 1, .inr (.inl f1)))]))) s _ _ := w
    refine pw_goi0 w (va_runV (C := RM) (As := [.int (xs (i + 1))]) (rest := []) S (pm_c_about l D m0 ad cI cd tm nf me nb sc gl nu si wh pl sm ms mg mn mk md _ (xs (i + 1))) (pw_cw (n := 1) S eL_59 iM_about sM_about iniM kM_about rfl rfl (by decide +kernel) ⟨by decide, by decide⟩) ⟨pw_blind, va_recv w.1 w.2.1 (ci := cM) (q0 := 0) rfl rfl, pw_pre w (w.1.sub [0] rfl)⟩ rfl rfl hl.1 rfl (lv_room (Nat.le_of_ble_eq_true rfl)) dL_law_368 ⟨hc, hs⟩) (fun r2 u2 H locs hp2 w => ?_)
    have key : u2 = k := by
      rcases hp with ⟨rfl, h1⟩ | ⟨rfl, h1, h2⟩ <;> rcases hp2 with ⟨h3, h4⟩ | ⟨h3, h4, h5⟩ | ⟨h3, h4, h5, h6⟩
      · exact h3
      · exact absurd h4 h1
      · exact absurd h4 h1
      · exact absurd h1 h4
      · exact h3
      · exact absurd (hLs.1.symm.trans h2) h5
    have key := key.symm
    subst key
    refine lv_istore (lv' := [(6, .int r2), (5, .int k), (0, .ref b), (1, .ref a0), (2, .ref m0), (3, .ref qo), (4, .int (nI i))]) hx hb dL_law_371 hl (by decide) rfl (fun ls hl => ?_)
    refine lv_aload_n hx hb dL_law_373 rfl (lv_at hl 4 rfl) ?_
    have w : pw_S D (px_T cI cO ++ [(cL, .long)]) (fun q => s.heap.size ≤ q) ([] ++ (pm_W m0 ad cI k tm nf me nb sc gl nu si wh pl sm ms mg mn mk md ++ (px_W a0 af ab o ar cI cO fd nf sg nb lw aw tm G B ++ [(qo, .inl (cL, 1, .inr (.inl f1)))]))) s _ _ := w
    refine pw_goi0 w (va_runV (C := RM) (As := []) (rest := []) S (pm_c_thrown l D m0 ad cI k tm nf me nb sc gl nu si wh pl sm ms mg mn mk md _ ) (pw_cw (n := 0) S eL_45 iM_thrown sM_thrown iniM kM_thrown rfl rfl (by decide +kernel) ⟨by decide, by decide⟩) ⟨pw_blind, va_recv w.1 w.2.1 (ci := cM) (q0 := 0) rfl rfl, pw_pre w (w.1.sub [0] rfl)⟩ rfl rfl hl.1 rfl (lv_room (Nat.le_of_ble_eq_true rfl)) dL_law_374 ⟨hc, hs⟩) (fun r3 _ H locs hp3 w => ?_)
    have w : pw_S D (px_T cI cO ++ [(cL, .long)]) (fun q => s.heap.size ≤ q) ((pm_W m0 ad cI k tm nf me nb sc gl nu si wh pl sm ms mg mn mk md ++ (px_W a0 af ab o ar cI cO fd nf sg nb lw aw tm G B ++ [(qo, .inl (cL, 1, .inr (.inl f1)))]))) s _ _ := w
    refine lv_iload hx hb dL_law_377 (lv_at hl 1 rfl) ?_
    refine lv_icmp_eq (tgt := 384) hx hb dL_law_379 (by decide) (fun _ => ?_) (fun h9 => absurd hp3 h9)
    refine lv_iload hx hb dL_law_384 (lv_at hl 1 rfl) ?_
    refine lv_if_ne (tgt := 401) hx hb dL_law_386 (by decide) (fun _ => ?_) (fun h9 => absurd h9 hk0)
    refine lv_goto (tgt := 583) hx hb dL_law_401 (by decide) ?_
    exact kk _ _ _ ⟨fd, nf, sg, nb, lw, aw, tm, G, B, k, me, sc, gl, nu, si, wh, pl, sm, ms, mg, mn, mk, md, f1, htm, hF, hW, hLs, w⟩ (lv_sub hl [2, 3, 4, 5, 6] rfl)
  | some u1 =>
    obtain ⟨rfl, r, ⟨q1, q2, q3⟩, hf1⟩ := hp
    have w : pw_S D (px_T cI cO ++ [(cL, .long)]) (fun q => s.heap.size ≤ q) (pm_W m0 ad cI cd tm nf me nb sc gl nu si wh pl sm ms mg mn mk md ++ ((px_W a0 af ab o ar cI cO fd nf sg nb lw aw tm G B ++ [(qo, .inl (cL, 1, .inr (.inl f1)))]) ++ [])) s _ _ := w
    have w : pw_S D (px_T cI cO ++ [(cL, .long)]) (fun q => s.heap.size ≤ q) (pm_W m0 ad cI cd tm nf me nb sc gl nu si wh pl sm ms mg mn mk md ++ (px_W a0 af ab o ar cI cO fd nf sg nb lw aw tm G B ++ [(qo, .inl (cL, 1, .inr (.inl f1)))])) s _ _ := w.to (by rw [List.append_nil])
    dsimp only at hf1
    refine lv_istore (lv' := [(5, .int 0), (0, .ref b), (1, .ref a0), (2, .ref m0), (3, .ref qo), (4, .int (nI i))]) hx hb dL_law_359 hl (by decide) rfl (fun ls hl => ?_)
    refine lv_aload_n hx hb dL_law_361 rfl (lv_at hl 3 rfl) ?_
    refine lv_aload_n hx hb dL_law_362 rfl (lv_at hl 1 rfl) ?_
    refine lv_iload hx hb dL_law_363 (lv_at hl 5 rfl) ?_
    refine lv_iconst (v := 1) hx hb dL_law_365 (by decide) ?_
    refine lv_iadd hx hb dL_law_366 ?_
    refine pw_top (y := nI (i + 1)) (nI_add i 1) ?_
    refine pw_sld S w hX hbl (j := (i + 1)) (by omega) hL dL_law_367 ?_
    have w : pw_S D (px_T cI cO ++ [(cL, .long)]) (fun q => s.heap.size ≤ q) ([] ++ (pm_W m0 ad cI cd tm nf me nb sc gl nu si wh pl sm ms mg mn mk md ++ (px_W a0 af ab o ar cI cO fd nf sg nb lw aw tm G B ++ [(qo, .inl (cL, 1, .inr (.inl f1)))]))) s _ _ := w
    refine pw_goi0 w (va_runV (C := RM) (As := [.int (xs (i + 1))]) (rest := []) S (pm_c_about l D m0 ad cI cd tm nf me nb sc gl nu si wh pl sm ms mg mn mk md _ (xs (i + 1))) (pw_cw (n := 1) S eL_59 iM_about sM_about iniM kM_about rfl rfl (by decide +kernel) ⟨by decide, by decide⟩) ⟨pw_blind, va_recv w.1 w.2.1 (ci := cM) (q0 := 0) rfl rfl, pw_pre w (w.1.sub [0] rfl)⟩ rfl rfl hl.1 rfl (lv_room (Nat.le_of_ble_eq_true rfl)) dL_law_368 ⟨hc, hs⟩) (fun r2 u2 H locs hp2 w => ?_)
    obtain ⟨z, l1, l2, l3, l4, l5, l6, l7⟩ := hLs.2 q2
    have key : u2 = 0 ∧ r2 = r := by
      rcases hp2 with ⟨h3, h4⟩ | ⟨h3, h4, h5⟩ | ⟨h3, h4, h5, h6⟩
      · exact absurd q1 h4
      · exact absurd (hLs.1.trans h5) q2
      · refine ⟨h3, ?_⟩
        rw [h6, q3]
        unfold px_ab
        rw [l1, l2, l3, l4, l5]
    obtain ⟨rfl, hr2⟩ := key
    have hans : f1 0 = r2.toInt64 := by rw [hf1, hr2]
    refine lv_istore (lv' := [(6, .int r2), (5, .int 0), (0, .ref b), (1, .ref a0), (2, .ref m0), (3, .ref qo), (4, .int (nI i))]) hx hb dL_law_371 hl (by decide) rfl (fun ls hl => ?_)
    refine lv_aload_n hx hb dL_law_373 rfl (lv_at hl 4 rfl) ?_
    have w : pw_S D (px_T cI cO ++ [(cL, .long)]) (fun q => s.heap.size ≤ q) ([] ++ (pm_W m0 ad cI 0 tm nf me nb sc gl nu si wh pl sm ms mg mn mk md ++ (px_W a0 af ab o ar cI cO fd nf sg nb lw aw tm G B ++ [(qo, .inl (cL, 1, .inr (.inl f1)))]))) s _ _ := w
    refine pw_goi0 w (va_runV (C := RM) (As := []) (rest := []) S (pm_c_thrown l D m0 ad cI 0 tm nf me nb sc gl nu si wh pl sm ms mg mn mk md _ ) (pw_cw (n := 0) S eL_45 iM_thrown sM_thrown iniM kM_thrown rfl rfl (by decide +kernel) ⟨by decide, by decide⟩) ⟨pw_blind, va_recv w.1 w.2.1 (ci := cM) (q0 := 0) rfl rfl, pw_pre w (w.1.sub [0] rfl)⟩ rfl rfl hl.1 rfl (lv_room (Nat.le_of_ble_eq_true rfl)) dL_law_374 ⟨hc, hs⟩) (fun r3 _ H locs hp3 w => ?_)
    have w : pw_S D (px_T cI cO ++ [(cL, .long)]) (fun q => s.heap.size ≤ q) ((pm_W m0 ad cI 0 tm nf me nb sc gl nu si wh pl sm ms mg mn mk md ++ (px_W a0 af ab o ar cI cO fd nf sg nb lw aw tm G B ++ [(qo, .inl (cL, 1, .inr (.inl f1)))]))) s _ _ := w
    refine lv_iload hx hb dL_law_377 (lv_at hl 1 rfl) ?_
    refine lv_icmp_eq (tgt := 384) hx hb dL_law_379 (by decide) (fun _ => ?_) (fun h9 => absurd hp3 h9)
    refine lv_iload hx hb dL_law_384 (lv_at hl 1 rfl) ?_
    refine lv_if_ne (tgt := 401) hx hb dL_law_386 (by decide) (fun h9 => absurd rfl h9) (fun _ => ?_)
    refine lv_aload_n hx hb dL_law_389 rfl (lv_at hl 5 rfl) ?_
    refine lv_iconst (v := 0) hx hb dL_law_390 (by decide) ?_
    refine pw_lald S w 22 2 (x := qo) (f := f1) (n := 1) (cA := cL) rfl rfl (j := 0) (by decide) (by decide) dL_law_391 ?_
    refine lv_iload hx hb dL_law_392 (lv_at hl 0 rfl) ?_
    refine lv_i2l hx hb dL_law_394 rfl ?_
    refine W.lcmp hx hb dL_law_395 ?_
    refine lv_if_eq (tgt := 401) hx hb dL_law_396 (by decide) (fun _ => ?_) (fun h9 => absurd (by rw [hans]; exact pl_cmp _) h9)
    refine lv_goto (tgt := 583) hx hb dL_law_401 (by decide) ?_
    exact kk _ _ _ ⟨fd, nf, sg, nb, lw, aw, tm, G, B, 0, me, sc, gl, nu, si, wh, pl, sm, ms, mg, mn, mk, md, f1, htm, hF, hW, hLs, w⟩ (lv_sub hl [2, 3, 4, 5, 6] rfl)

set_option maxHeartbeats 4000000 in
set_option maxRecDepth 100000 in
/-- the law's case: byteAt -/
theorem pl_k_byteAt {p : Program} {l : Launch} {e : Env} {s : State} {m : MethodId} {below : List Frame} {meth : Method} {c : Code} {b L : Nat} {xs : Nat → Int32} {D : va_G} {a0 af ab : Nat} {o ar : Nat → Nat} {cI cO : ClassId} {m0 : Nat} {ad : Nat → Nat} {qo : Nat} {cL : ClassId} {H : Heap} {locs : List Loc} {ls : Array Slot} {cells slots i : Nat} {Q : State → Prop}
    (hl9 : l.stackTraces = false) (S : pw_Fx p m c cL_law 7 s #[Value.ref b] RL) (hX : va_X b L xs s s.heap) (hbl : b < s.heap.size) (hL : L ≤ 3072) (hi : i + 6 ≤ L) (hc : cells + 1 ≤ 601024) (hs : slots + 6 ≤ 7293034) (st : pl_St D s a0 af ab o ar cI cO m0 ad qo cL H locs) (hl : lv_has ls 7 [(0, .ref b), (1, .ref a0), (2, .ref m0), (3, .ref qo), (4, .int (nI i))])
    (kk : ∀ (H1 : Heap) (locs1 : List Loc) (ls1 : Array Slot), pl_St D s a0 af ab o ar cI cO m0 ad qo cL H1 locs1 → lv_has ls1 7 [(0, .ref b), (1, .ref a0), (2, .ref m0), (3, .ref qo), (4, .int (nI i))] → W p l e room_1 s m #[Value.ref b] below meth c H1 locs1 (cells + 1) (slots + 6) Q (F0 m 583 ls1 [])) :
    W p l e room_1 s m #[Value.ref b] below meth c H locs cells slots Q (F0 m 404 ls []) := by
  obtain ⟨fd, nf, sg, nb, lw, aw, tm, G, B, cd, me, sc, gl, nu, si, wh, pl, sm, ms, mg, mn, mk, md, f, htm, hF, hW, hLs, w⟩ := st
  obtain ⟨hx, hb, hml, hown, hts⟩ := id S
  obtain ⟨z, hz0, hzX, hzM, hzB⟩ : ∃ z : Nat, z ≤ 1480 ∧ (¬ aw = 0 → (G lw).2.2.2.1 = nI z ∧ z ≤ 1480) ∧ (¬ sm = 0 → mk = nI z ∧ z ≤ 1480) ∧ (¬ aw = 0 → ∀ i9, i9 < z → B lw i9 = md i9) := by
    by_cases ha : aw = 0
    · exact ⟨0, by omega, fun h => absurd ha h, fun h => absurd (hLs.1.symm.trans ha) h, fun h => absurd ha h⟩
    · obtain ⟨z, l1, l2, l3, l4, l5, l6, l7⟩ := hLs.2 ha
      exact ⟨z, l6, fun _ => ⟨l4, l6⟩, fun _ => ⟨l5, l6⟩, fun _ => l7⟩
  refine lv_aload_n hx hb dL_law_404 rfl (lv_at hl 1 rfl) ?_
  refine lv_aload_n hx hb dL_law_405 rfl (lv_at hl 0 rfl) ?_
  refine lv_iload hx hb dL_law_406 (lv_at hl 4 rfl) ?_
  refine lv_iconst (v := 1) hx hb dL_law_408 (by decide) ?_
  refine lv_iadd hx hb dL_law_409 ?_
  refine pw_top (y := nI (i + 1)) (nI_add i 1) ?_
  refine pw_sld S w hX hbl (j := (i + 1)) (by omega) hL dL_law_410 ?_
  refine lv_aload_n hx hb dL_law_411 rfl (lv_at hl 3 rfl) ?_
  have w1 : pw_S D (px_T cI cO ++ [(cL, .long)]) (fun q => s.heap.size ≤ q) (pm_W m0 ad cI cd tm nf me nb sc gl nu si wh pl sm ms mg mn mk md ++ ((px_W a0 af ab o ar cI cO fd nf sg nb lw aw tm G B ++ [(qo, .inl (cL, 1, .inr (.inl f)))]) ++ [])) s _ _ := w.to (by rw [List.append_nil])
  refine pw_goi w1 (vx_runSW (As := [.ref a0, .int (xs (i + 1)), .ref qo]) (rest := []) S (pl_c_byteAt l D a0 af ab o ar cI cO fd nf sg nb lw aw tm G B _ qo cL f hl9 hW.2.1.2.1 z hzX (xs (i + 1))) (pw_cW (n := 3) S eL_60 tL_byteAt iniL kL_byteAt rfl rfl (by decide +kernel) ⟨by decide, by decide⟩) ⟨pw_blind, pw_pre w1 w1.1⟩ rfl rfl hl.1 rfl (lv_room (Nat.le_of_ble_eq_true rfl)) dL_law_412 ⟨hc, hs⟩) (fun k u H locs hp w => ?_)
  clear w1
  obtain ⟨x9, f1⟩ := u
  cases x9 with
  | none =>
    have w : pw_S D (px_T cI cO ++ [(cL, .long)]) (fun q => s.heap.size ≤ q) (pm_W m0 ad cI cd tm nf me nb sc gl nu si wh pl sm ms mg mn mk md ++ ((px_W a0 af ab o ar cI cO fd nf sg nb lw aw tm G B ++ [(qo, .inl (cL, 1, .inr (.inl f1)))]) ++ [])) s _ _ := w
    have w : pw_S D (px_T cI cO ++ [(cL, .long)]) (fun q => s.heap.size ≤ q) (pm_W m0 ad cI cd tm nf me nb sc gl nu si wh pl sm ms mg mn mk md ++ (px_W a0 af ab o ar cI cO fd nf sg nb lw aw tm G B ++ [(qo, .inl (cL, 1, .inr (.inl f1)))])) s _ _ := w.to (by rw [List.append_nil])
    have hp : (k = 1 ∧ aw = 0) ∨ (k = 2 ∧ ¬ aw = 0 ∧ ¬ (0 ≤ (xs (i + 1)).toInt ∧ (xs (i + 1)).toInt < z)) := hp
    have hk0 : ¬ k = 0 := by rcases hp with ⟨rfl, -⟩ | ⟨rfl, -⟩ <;> decide
    refine lv_istore (lv' := [(5, .int k), (0, .ref b), (1, .ref a0), (2, .ref m0), (3, .ref qo), (4, .int (nI i))]) hx hb dL_law_415 hl (by decide) rfl (fun ls hl => ?_)
    refine lv_aload_n hx hb dL_law_417 rfl (lv_at hl 3 rfl) ?_
    refine lv_aload_n hx hb dL_law_418 rfl (lv_at hl 1 rfl) ?_
    refine lv_iload hx hb dL_law_419 (lv_at hl 5 rfl) ?_
    refine lv_iconst (v := 1) hx hb dL_law_421 (by decide) ?_
    refine lv_iadd hx hb dL_law_422 ?_
    refine pw_top (y := nI (i + 1)) (nI_add i 1) ?_
    refine pw_sld S w hX hbl (j := (i + 1)) (by omega) hL dL_law_423 ?_
    have w : pw_S D (px_T cI cO ++ [(cL, .long)]) (fun q => s.heap.size ≤ q) ([] ++ (pm_W m0 ad cI cd tm nf me nb sc gl nu si wh pl sm ms mg mn mk md ++ (px_W a0 af ab o ar cI cO fd nf sg nb lw aw tm G B ++ [(qo, .inl (cL, 1, .inr (.inl f1)))]))) s _ _ := w
    refine pw_goi0 w (va_runV (C := RM) (As := [.int (xs (i + 1))]) (rest := []) S (pm_c_byteAt l D m0 ad cI cd tm nf me nb sc gl nu si wh pl sm ms mg mn mk md _ z hzM (xs (i + 1))) (pw_cw (n := 1) S eL_62 iM_byteAt sM_byteAt iniM kM_byteAt rfl rfl (by decide +kernel) ⟨by decide, by decide⟩) ⟨pw_blind, va_recv w.1 w.2.1 (ci := cM) (q0 := 0) rfl rfl, pw_pre w (w.1.sub [0] rfl)⟩ rfl rfl hl.1 rfl (lv_room (Nat.le_of_ble_eq_true rfl)) dL_law_424 ⟨hc, hs⟩) (fun r2 u2 H locs hp2 w => ?_)
    have key : u2 = k := by
      rcases hp with ⟨rfl, h1⟩ | ⟨rfl, h1, h2⟩ <;> rcases hp2 with ⟨h3, h4⟩ | ⟨h3, h4, h5⟩ | ⟨h3, h4, i9, g1, g2, g3⟩
      · exact h3
      · exact absurd (hLs.1.symm.trans h1) h4
      · exact absurd (hLs.1.symm.trans h1) h4
      · exact absurd (hLs.1.trans h4) h1
      · exact h3
      · exact absurd (by rw [g2, nI_toInt (by omega)]; omega) h2
    have key := key.symm
    subst key
    refine lv_istore (lv' := [(6, .int r2), (5, .int k), (0, .ref b), (1, .ref a0), (2, .ref m0), (3, .ref qo), (4, .int (nI i))]) hx hb dL_law_427 hl (by decide) rfl (fun ls hl => ?_)
    refine lv_aload_n hx hb dL_law_429 rfl (lv_at hl 4 rfl) ?_
    have w : pw_S D (px_T cI cO ++ [(cL, .long)]) (fun q => s.heap.size ≤ q) ([] ++ (pm_W m0 ad cI k tm nf me nb sc gl nu si wh pl sm ms mg mn mk md ++ (px_W a0 af ab o ar cI cO fd nf sg nb lw aw tm G B ++ [(qo, .inl (cL, 1, .inr (.inl f1)))]))) s _ _ := w
    refine pw_goi0 w (va_runV (C := RM) (As := []) (rest := []) S (pm_c_thrown l D m0 ad cI k tm nf me nb sc gl nu si wh pl sm ms mg mn mk md _ ) (pw_cw (n := 0) S eL_45 iM_thrown sM_thrown iniM kM_thrown rfl rfl (by decide +kernel) ⟨by decide, by decide⟩) ⟨pw_blind, va_recv w.1 w.2.1 (ci := cM) (q0 := 0) rfl rfl, pw_pre w (w.1.sub [0] rfl)⟩ rfl rfl hl.1 rfl (lv_room (Nat.le_of_ble_eq_true rfl)) dL_law_430 ⟨hc, hs⟩) (fun r3 _ H locs hp3 w => ?_)
    have w : pw_S D (px_T cI cO ++ [(cL, .long)]) (fun q => s.heap.size ≤ q) ((pm_W m0 ad cI k tm nf me nb sc gl nu si wh pl sm ms mg mn mk md ++ (px_W a0 af ab o ar cI cO fd nf sg nb lw aw tm G B ++ [(qo, .inl (cL, 1, .inr (.inl f1)))]))) s _ _ := w
    refine lv_iload hx hb dL_law_433 (lv_at hl 1 rfl) ?_
    refine lv_icmp_eq (tgt := 440) hx hb dL_law_435 (by decide) (fun _ => ?_) (fun h9 => absurd hp3 h9)
    refine lv_iload hx hb dL_law_440 (lv_at hl 1 rfl) ?_
    refine lv_if_ne (tgt := 457) hx hb dL_law_442 (by decide) (fun _ => ?_) (fun h9 => absurd h9 hk0)
    refine lv_goto (tgt := 583) hx hb dL_law_457 (by decide) ?_
    exact kk _ _ _ ⟨fd, nf, sg, nb, lw, aw, tm, G, B, k, me, sc, gl, nu, si, wh, pl, sm, ms, mg, mn, mk, md, f1, htm, hF, hW, hLs, w⟩ (lv_sub hl [2, 3, 4, 5, 6] rfl)
  | some u1 =>
    obtain ⟨rfl, r, ⟨q1, i9, q2, q3, q4⟩, hf1⟩ := hp
    have w : pw_S D (px_T cI cO ++ [(cL, .long)]) (fun q => s.heap.size ≤ q) (pm_W m0 ad cI cd tm nf me nb sc gl nu si wh pl sm ms mg mn mk md ++ ((px_W a0 af ab o ar cI cO fd nf sg nb lw aw tm G B ++ [(qo, .inl (cL, 1, .inr (.inl f1)))]) ++ [])) s _ _ := w
    have w : pw_S D (px_T cI cO ++ [(cL, .long)]) (fun q => s.heap.size ≤ q) (pm_W m0 ad cI cd tm nf me nb sc gl nu si wh pl sm ms mg mn mk md ++ (px_W a0 af ab o ar cI cO fd nf sg nb lw aw tm G B ++ [(qo, .inl (cL, 1, .inr (.inl f1)))])) s _ _ := w.to (by rw [List.append_nil])
    dsimp only at hf1
    refine lv_istore (lv' := [(5, .int 0), (0, .ref b), (1, .ref a0), (2, .ref m0), (3, .ref qo), (4, .int (nI i))]) hx hb dL_law_415 hl (by decide) rfl (fun ls hl => ?_)
    refine lv_aload_n hx hb dL_law_417 rfl (lv_at hl 3 rfl) ?_
    refine lv_aload_n hx hb dL_law_418 rfl (lv_at hl 1 rfl) ?_
    refine lv_iload hx hb dL_law_419 (lv_at hl 5 rfl) ?_
    refine lv_iconst (v := 1) hx hb dL_law_421 (by decide) ?_
    refine lv_iadd hx hb dL_law_422 ?_
    refine pw_top (y := nI (i + 1)) (nI_add i 1) ?_
    refine pw_sld S w hX hbl (j := (i + 1)) (by omega) hL dL_law_423 ?_
    have w : pw_S D (px_T cI cO ++ [(cL, .long)]) (fun q => s.heap.size ≤ q) ([] ++ (pm_W m0 ad cI cd tm nf me nb sc gl nu si wh pl sm ms mg mn mk md ++ (px_W a0 af ab o ar cI cO fd nf sg nb lw aw tm G B ++ [(qo, .inl (cL, 1, .inr (.inl f1)))]))) s _ _ := w
    refine pw_goi0 w (va_runV (C := RM) (As := [.int (xs (i + 1))]) (rest := []) S (pm_c_byteAt l D m0 ad cI cd tm nf me nb sc gl nu si wh pl sm ms mg mn mk md _ z hzM (xs (i + 1))) (pw_cw (n := 1) S eL_62 iM_byteAt sM_byteAt iniM kM_byteAt rfl rfl (by decide +kernel) ⟨by decide, by decide⟩) ⟨pw_blind, va_recv w.1 w.2.1 (ci := cM) (q0 := 0) rfl rfl, pw_pre w (w.1.sub [0] rfl)⟩ rfl rfl hl.1 rfl (lv_room (Nat.le_of_ble_eq_true rfl)) dL_law_424 ⟨hc, hs⟩) (fun r2 u2 H locs hp2 w => ?_)
    have hni : (xs (i + 1)).toInt = i9 := by rw [q3, nI_toInt (by omega)]
    have key : u2 = 0 ∧ r2 = r := by
      rcases hp2 with ⟨h3, h4⟩ | ⟨h3, h4, h5⟩ | ⟨h3, h4, i8, g1, g2, g3⟩
      · exact absurd (hLs.1.trans h4) q1
      · exact absurd (by rw [hni]; omega) h5
      · have e9 : i8 = i9 := (nI_eq (by omega) (by omega)).mp (g2.symm.trans q3)
        subst e9
        exact ⟨h3, by rw [g3, q4, hzB q1 _ q2]⟩
    obtain ⟨rfl, hr2⟩ := key
    have hans : f1 0 = r2.toInt64 := by rw [hf1, hr2]
    refine lv_istore (lv' := [(6, .int r2), (5, .int 0), (0, .ref b), (1, .ref a0), (2, .ref m0), (3, .ref qo), (4, .int (nI i))]) hx hb dL_law_427 hl (by decide) rfl (fun ls hl => ?_)
    refine lv_aload_n hx hb dL_law_429 rfl (lv_at hl 4 rfl) ?_
    have w : pw_S D (px_T cI cO ++ [(cL, .long)]) (fun q => s.heap.size ≤ q) ([] ++ (pm_W m0 ad cI 0 tm nf me nb sc gl nu si wh pl sm ms mg mn mk md ++ (px_W a0 af ab o ar cI cO fd nf sg nb lw aw tm G B ++ [(qo, .inl (cL, 1, .inr (.inl f1)))]))) s _ _ := w
    refine pw_goi0 w (va_runV (C := RM) (As := []) (rest := []) S (pm_c_thrown l D m0 ad cI 0 tm nf me nb sc gl nu si wh pl sm ms mg mn mk md _ ) (pw_cw (n := 0) S eL_45 iM_thrown sM_thrown iniM kM_thrown rfl rfl (by decide +kernel) ⟨by decide, by decide⟩) ⟨pw_blind, va_recv w.1 w.2.1 (ci := cM) (q0 := 0) rfl rfl, pw_pre w (w.1.sub [0] rfl)⟩ rfl rfl hl.1 rfl (lv_room (Nat.le_of_ble_eq_true rfl)) dL_law_430 ⟨hc, hs⟩) (fun r3 _ H locs hp3 w => ?_)
    have w : pw_S D (px_T cI cO ++ [(cL, .long)]) (fun q => s.heap.size ≤ q) ((pm_W m0 ad cI 0 tm nf me nb sc gl nu si wh pl sm ms mg mn mk md ++ (px_W a0 af ab o ar cI cO fd nf sg nb lw aw tm G B ++ [(qo, .inl (cL, 1, .inr (.inl f1)))]))) s _ _ := w
    refine lv_iload hx hb dL_law_433 (lv_at hl 1 rfl) ?_
    refine lv_icmp_eq (tgt := 440) hx hb dL_law_435 (by decide) (fun _ => ?_) (fun h9 => absurd hp3 h9)
    refine lv_iload hx hb dL_law_440 (lv_at hl 1 rfl) ?_
    refine lv_if_ne (tgt := 457) hx hb dL_law_442 (by decide) (fun h9 => absurd rfl h9) (fun _ => ?_)
    refine lv_aload_n hx hb dL_law_445 rfl (lv_at hl 5 rfl) ?_
    refine lv_iconst (v := 0) hx hb dL_law_446 (by decide) ?_
    refine pw_lald S w 22 2 (x := qo) (f := f1) (n := 1) (cA := cL) rfl rfl (j := 0) (by decide) (by decide) dL_law_447 ?_
    refine lv_iload hx hb dL_law_448 (lv_at hl 0 rfl) ?_
    refine lv_i2l hx hb dL_law_450 rfl ?_
    refine W.lcmp hx hb dL_law_451 ?_
    refine lv_if_eq (tgt := 457) hx hb dL_law_452 (by decide) (fun _ => ?_) (fun h9 => absurd (by rw [hans]; exact pl_cmp _) h9)
    refine lv_goto (tgt := 583) hx hb dL_law_457 (by decide) ?_
    exact kk _ _ _ ⟨fd, nf, sg, nb, lw, aw, tm, G, B, 0, me, sc, gl, nu, si, wh, pl, sm, ms, mg, mn, mk, md, f1, htm, hF, hW, hLs, w⟩ (lv_sub hl [2, 3, 4, 5, 6] rfl)
