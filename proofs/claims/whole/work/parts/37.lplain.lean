set_option maxHeartbeats 4000000 in
set_option maxRecDepth 100000 in
/-- the law's case: missing -/
theorem pl_k_missing {p : Program} {l : Launch} {e : Env} {s : State} {m : MethodId} {below : List Frame} {meth : Method} {c : Code} {b L : Nat} {xs : Nat → Int32} {D : va_G} {a0 af ab : Nat} {o ar : Nat → Nat} {cI cO : ClassId} {m0 : Nat} {ad : Nat → Nat} {qo : Nat} {cL : ClassId} {H : Heap} {locs : List Loc} {ls : Array Slot} {cells slots i : Nat} {Q : State → Prop}
    (hl9 : l.stackTraces = false) (S : pw_Fx p m c cL_law 7 s #[Value.ref b] RL) (hX : va_X b L xs s s.heap) (hbl : b < s.heap.size) (hL : L ≤ 3072) (hi : i + 6 ≤ L) (hc : cells + 1 ≤ 601024) (hs : slots + 6 ≤ 7293034) (st : pl_St D s a0 af ab o ar cI cO m0 ad qo cL H locs) (hl : lv_has ls 7 [(0, .ref b), (1, .ref a0), (2, .ref m0), (3, .ref qo), (4, .int (nI i))])
    (kk : ∀ (H1 : Heap) (locs1 : List Loc) (ls1 : Array Slot), pl_St D s a0 af ab o ar cI cO m0 ad qo cL H1 locs1 → lv_has ls1 7 [(0, .ref b), (1, .ref a0), (2, .ref m0), (3, .ref qo), (4, .int (nI i))] → W p l e room_1 s m #[Value.ref b] below meth c H1 locs1 (cells + 1) (slots + 6) Q (F0 m 583 ls1 [])) :
    W p l e room_1 s m #[Value.ref b] below meth c H locs cells slots Q (F0 m 460 ls []) := by
  obtain ⟨fd, nf, sg, nb, lw, aw, tm, G, B, cd, me, sc, gl, nu, si, wh, pl, sm, ms, mg, mn, mk, md, f, htm, hF, hW, hLs, w⟩ := st
  obtain ⟨hx, hb, hml, hown, hts⟩ := id S
  refine lv_aload_n hx hb dL_law_460 rfl (lv_at hl 1 rfl) ?_
  refine lv_aload_n hx hb dL_law_461 rfl (lv_at hl 0 rfl) ?_
  refine lv_iload hx hb dL_law_462 (lv_at hl 4 rfl) ?_
  refine lv_iconst (v := 1) hx hb dL_law_464 (by decide) ?_
  refine lv_iadd hx hb dL_law_465 ?_
  refine pw_top (y := nI (i + 1)) (nI_add i 1) ?_
  refine pw_sld S w hX hbl (j := (i + 1)) (by omega) hL dL_law_466 ?_
  refine lv_aload_n hx hb dL_law_467 rfl (lv_at hl 0 rfl) ?_
  refine lv_iload hx hb dL_law_468 (lv_at hl 4 rfl) ?_
  refine lv_iconst (v := 2) hx hb dL_law_470 (by decide) ?_
  refine lv_iadd hx hb dL_law_471 ?_
  refine pw_top (y := nI (i + 2)) (nI_add i 2) ?_
  refine pw_sld S w hX hbl (j := (i + 2)) (by omega) hL dL_law_472 ?_
  refine lv_aload_n hx hb dL_law_473 rfl (lv_at hl 0 rfl) ?_
  refine lv_iload hx hb dL_law_474 (lv_at hl 4 rfl) ?_
  refine lv_iconst (v := 3) hx hb dL_law_476 (by decide) ?_
  refine lv_iadd hx hb dL_law_477 ?_
  refine pw_top (y := nI (i + 3)) (nI_add i 3) ?_
  refine pw_sld S w hX hbl (j := (i + 3)) (by omega) hL dL_law_478 ?_
  refine pw_goi0 w (va_runV (C := RP) (As := [.int (xs (i + 1)), .int (xs (i + 2)), .int (xs (i + 3))]) (rest := []) S (px_c_missing l D a0 af ab o ar cI cO fd nf sg nb lw aw tm G B _ hW.1 hW.2.1.1 (xs (i + 1)) (xs (i + 2)) (xs (i + 3))) (pw_cw (n := 3) S eL_63 iP_missing sP_missing iniP kP_missing rfl rfl (by decide +kernel) ⟨by decide, by decide⟩) ⟨pw_blind, va_recv w.1 w.2.1 (ci := cP) (q0 := 9) rfl rfl, pw_pre w (w.1.sub [0, 1] rfl)⟩ rfl rfl hl.1 rfl (lv_room (Nat.le_of_ble_eq_true rfl)) dL_law_479 ⟨Nat.le_of_succ_le hc, Nat.le_trans (Nat.le_add_right _ 6) hs⟩) (fun r1 _ H locs hp w => ?_)
  have w : pw_S D (px_T cI cO ++ [(cL, .long)]) (fun q => s.heap.size ≤ q) ((pm_W m0 ad cI cd tm nf me nb sc gl nu si wh pl sm ms mg mn mk md ++ (px_W a0 af ab o ar cI cO fd nf sg nb lw aw tm G B ++ [(qo, .inl (cL, 1, .inr (.inl f)))]))) s _ _ := w
  refine lv_aload_n hx hb dL_law_482 rfl (lv_at hl 2 rfl) ?_
  refine lv_aload_n hx hb dL_law_483 rfl (lv_at hl 0 rfl) ?_
  refine lv_iload hx hb dL_law_484 (lv_at hl 4 rfl) ?_
  refine lv_iconst (v := 1) hx hb dL_law_486 (by decide) ?_
  refine lv_iadd hx hb dL_law_487 ?_
  refine pw_top (y := nI (i + 1)) (nI_add i 1) ?_
  refine pw_sld S w hX hbl (j := (i + 1)) (by omega) hL dL_law_488 ?_
  refine lv_aload_n hx hb dL_law_489 rfl (lv_at hl 0 rfl) ?_
  refine lv_iload hx hb dL_law_490 (lv_at hl 4 rfl) ?_
  refine lv_iconst (v := 2) hx hb dL_law_492 (by decide) ?_
  refine lv_iadd hx hb dL_law_493 ?_
  refine pw_top (y := nI (i + 2)) (nI_add i 2) ?_
  refine pw_sld S w hX hbl (j := (i + 2)) (by omega) hL dL_law_494 ?_
  refine lv_aload_n hx hb dL_law_495 rfl (lv_at hl 0 rfl) ?_
  refine lv_iload hx hb dL_law_496 (lv_at hl 4 rfl) ?_
  refine lv_iconst (v := 3) hx hb dL_law_498 (by decide) ?_
  refine lv_iadd hx hb dL_law_499 ?_
  refine pw_top (y := nI (i + 3)) (nI_add i 3) ?_
  refine pw_sld S w hX hbl (j := (i + 3)) (by omega) hL dL_law_500 ?_
  have w : pw_S D (px_T cI cO ++ [(cL, .long)]) (fun q => s.heap.size ≤ q) ([] ++ (pm_W m0 ad cI cd tm nf me nb sc gl nu si wh pl sm ms mg mn mk md ++ (px_W a0 af ab o ar cI cO fd nf sg nb lw aw tm G B ++ [(qo, .inl (cL, 1, .inr (.inl f)))]))) s _ _ := w
  refine pw_goi0 w (va_runV (C := RM) (As := [.int (xs (i + 1)), .int (xs (i + 2)), .int (xs (i + 3))]) (rest := [.int r1]) S (pm_c_missing l D m0 ad cI cd tm nf me nb sc gl nu si wh pl sm ms mg mn mk md _ hW.1 (fun q => (wh q).toNatClampNeg) (fun q hq => by obtain ⟨z, -, e2, -, e4, -⟩ := hW.2.2.1 q hq; rw [e2, nI_clamp (by omega)]; exact ⟨rfl, e4⟩) (xs (i + 1)) (xs (i + 2)) (xs (i + 3))) (pw_cw (n := 3) S eL_67 iM_missing sM_missing iniM kM_missing rfl rfl (by decide +kernel) ⟨by decide, by decide⟩) ⟨pw_blind, va_recv w.1 w.2.1 (ci := cM) (q0 := 0) rfl rfl, pw_pre w (w.1.sub [0] rfl)⟩ rfl rfl hl.1 rfl (lv_room (Nat.le_of_ble_eq_true rfl)) dL_law_501 ⟨Nat.le_of_succ_le hc, Nat.le_trans (Nat.le_add_right _ 6) hs⟩) (fun r2 _ H locs hp2 w => ?_)
  have w : pw_S D (px_T cI cO ++ [(cL, .long)]) (fun q => s.heap.size ≤ q) ((pm_W m0 ad cI 0 tm nf me nb sc gl nu si wh pl sm ms mg mn mk md ++ (px_W a0 af ab o ar cI cO fd nf sg nb lw aw tm G B ++ [(qo, .inl (cL, 1, .inr (.inl f)))]))) s _ _ := w
  have heq : r1 = r2 := by
    obtain ⟨x, hx1, e1⟩ := hp
    obtain ⟨y, hy1, e2⟩ := hp2
    have e3 := pr_fnd hW hx1 hy1
    subst e3
    rw [e1, e2]
    cases x with
    | none => rfl
    | some q9 =>
      obtain ⟨z, d1, d2, d3, d4, d5, d6⟩ := hW.2.2.1 q9 hx1.1
      show (G (sg q9)).2.2.2.2.1 = nI (pm_c (fun i => pl (1480 * q9 + i)) (wh q9).toNatClampNeg)
      rw [d1, d2, nI_clamp (by omega), pr_c (fun i9 hi9 => d5 i9 (by omega)) (fun i9 hi9 => d6 i9 (by omega))]
  refine W.widen (k := cells + 1) (n := slots + 6) (Nat.le_succ _) (Nat.le_add_right _ 6) ?_
  refine lv_icmp_eq (tgt := 583) hx hb dL_law_504 (by decide) (fun _ => ?_) (fun h9 => absurd heq h9)
  exact kk _ _ _ ⟨fd, nf, sg, nb, lw, aw, tm, G, B, 0, me, sc, gl, nu, si, wh, pl, sm, ms, mg, mn, mk, md, f, htm, hF, hW, hLs, w⟩ (lv_sub hl [0, 1, 2, 3, 4] rfl)

set_option maxHeartbeats 4000000 in
set_option maxRecDepth 100000 in
/-- the law's case: has -/
theorem pl_k_has {p : Program} {l : Launch} {e : Env} {s : State} {m : MethodId} {below : List Frame} {meth : Method} {c : Code} {b L : Nat} {xs : Nat → Int32} {D : va_G} {a0 af ab : Nat} {o ar : Nat → Nat} {cI cO : ClassId} {m0 : Nat} {ad : Nat → Nat} {qo : Nat} {cL : ClassId} {H : Heap} {locs : List Loc} {ls : Array Slot} {cells slots i : Nat} {Q : State → Prop}
    (hl9 : l.stackTraces = false) (S : pw_Fx p m c cL_law 7 s #[Value.ref b] RL) (hX : va_X b L xs s s.heap) (hbl : b < s.heap.size) (hL : L ≤ 3072) (hi : i + 6 ≤ L) (hc : cells + 1 ≤ 601024) (hs : slots + 6 ≤ 7293034) (st : pl_St D s a0 af ab o ar cI cO m0 ad qo cL H locs) (hl : lv_has ls 7 [(0, .ref b), (1, .ref a0), (2, .ref m0), (3, .ref qo), (4, .int (nI i))])
    (kk : ∀ (H1 : Heap) (locs1 : List Loc) (ls1 : Array Slot), pl_St D s a0 af ab o ar cI cO m0 ad qo cL H1 locs1 → lv_has ls1 7 [(0, .ref b), (1, .ref a0), (2, .ref m0), (3, .ref qo), (4, .int (nI i))] → W p l e room_1 s m #[Value.ref b] below meth c H1 locs1 (cells + 1) (slots + 6) Q (F0 m 583 ls1 [])) :
    W p l e room_1 s m #[Value.ref b] below meth c H locs cells slots Q (F0 m 509 ls []) := by
  obtain ⟨fd, nf, sg, nb, lw, aw, tm, G, B, cd, me, sc, gl, nu, si, wh, pl, sm, ms, mg, mn, mk, md, f, htm, hF, hW, hLs, w⟩ := st
  obtain ⟨hx, hb, hml, hown, hts⟩ := id S
  refine lv_aload_n hx hb dL_law_509 rfl (lv_at hl 1 rfl) ?_
  refine lv_aload_n hx hb dL_law_510 rfl (lv_at hl 0 rfl) ?_
  refine lv_iload hx hb dL_law_511 (lv_at hl 4 rfl) ?_
  refine lv_iconst (v := 1) hx hb dL_law_513 (by decide) ?_
  refine lv_iadd hx hb dL_law_514 ?_
  refine pw_top (y := nI (i + 1)) (nI_add i 1) ?_
  refine pw_sld S w hX hbl (j := (i + 1)) (by omega) hL dL_law_515 ?_
  refine lv_aload_n hx hb dL_law_516 rfl (lv_at hl 0 rfl) ?_
  refine lv_iload hx hb dL_law_517 (lv_at hl 4 rfl) ?_
  refine lv_iconst (v := 2) hx hb dL_law_519 (by decide) ?_
  refine lv_iadd hx hb dL_law_520 ?_
  refine pw_top (y := nI (i + 2)) (nI_add i 2) ?_
  refine pw_sld S w hX hbl (j := (i + 2)) (by omega) hL dL_law_521 ?_
  refine lv_aload_n hx hb dL_law_522 rfl (lv_at hl 0 rfl) ?_
  refine lv_iload hx hb dL_law_523 (lv_at hl 4 rfl) ?_
  refine lv_iconst (v := 3) hx hb dL_law_525 (by decide) ?_
  refine lv_iadd hx hb dL_law_526 ?_
  refine pw_top (y := nI (i + 3)) (nI_add i 3) ?_
  refine pw_sld S w hX hbl (j := (i + 3)) (by omega) hL dL_law_527 ?_
  refine lv_aload_n hx hb dL_law_528 rfl (lv_at hl 0 rfl) ?_
  refine lv_iload hx hb dL_law_529 (lv_at hl 4 rfl) ?_
  refine lv_iconst (v := 4) hx hb dL_law_531 (by decide) ?_
  refine lv_iadd hx hb dL_law_532 ?_
  refine pw_top (y := nI (i + 4)) (nI_add i 4) ?_
  refine pw_sld S w hX hbl (j := (i + 4)) (by omega) hL dL_law_533 ?_
  refine pw_goi0 w (va_runV (C := RP) (As := [.int (xs (i + 1)), .int (xs (i + 2)), .int (xs (i + 3)), .int (xs (i + 4))]) (rest := []) S (px_c_has l D a0 af ab o ar cI cO fd nf sg nb lw aw tm G B _ hW.1 hW.2.1.1 (fun q hq => by obtain ⟨z, e1, e2, -, e4, -⟩ := hW.2.2.1 q hq; exact ⟨z, by rw [e1]; exact e2, e4⟩) (xs (i + 1)) (xs (i + 2)) (xs (i + 3)) (xs (i + 4))) (pw_cw (n := 4) S eL_68 iP_has sP_has iniP kP_has rfl rfl (by decide +kernel) ⟨by decide, by decide⟩) ⟨pw_blind, va_recv w.1 w.2.1 (ci := cP) (q0 := 9) rfl rfl, pw_pre w (w.1.sub [0, 1] rfl)⟩ rfl rfl hl.1 rfl (lv_room (Nat.le_of_ble_eq_true rfl)) dL_law_534 ⟨Nat.le_of_succ_le hc, Nat.le_trans (Nat.le_add_right _ 6) hs⟩) (fun r1 _ H locs hp w => ?_)
  have w : pw_S D (px_T cI cO ++ [(cL, .long)]) (fun q => s.heap.size ≤ q) ((pm_W m0 ad cI cd tm nf me nb sc gl nu si wh pl sm ms mg mn mk md ++ (px_W a0 af ab o ar cI cO fd nf sg nb lw aw tm G B ++ [(qo, .inl (cL, 1, .inr (.inl f)))]))) s _ _ := w
  refine lv_aload_n hx hb dL_law_537 rfl (lv_at hl 2 rfl) ?_
  refine lv_aload_n hx hb dL_law_538 rfl (lv_at hl 0 rfl) ?_
  refine lv_iload hx hb dL_law_539 (lv_at hl 4 rfl) ?_
  refine lv_iconst (v := 1) hx hb dL_law_541 (by decide) ?_
  refine lv_iadd hx hb dL_law_542 ?_
  refine pw_top (y := nI (i + 1)) (nI_add i 1) ?_
  refine pw_sld S w hX hbl (j := (i + 1)) (by omega) hL dL_law_543 ?_
  refine lv_aload_n hx hb dL_law_544 rfl (lv_at hl 0 rfl) ?_
  refine lv_iload hx hb dL_law_545 (lv_at hl 4 rfl) ?_
  refine lv_iconst (v := 2) hx hb dL_law_547 (by decide) ?_
  refine lv_iadd hx hb dL_law_548 ?_
  refine pw_top (y := nI (i + 2)) (nI_add i 2) ?_
  refine pw_sld S w hX hbl (j := (i + 2)) (by omega) hL dL_law_549 ?_
  refine lv_aload_n hx hb dL_law_550 rfl (lv_at hl 0 rfl) ?_
  refine lv_iload hx hb dL_law_551 (lv_at hl 4 rfl) ?_
  refine lv_iconst (v := 3) hx hb dL_law_553 (by decide) ?_
  refine lv_iadd hx hb dL_law_554 ?_
  refine pw_top (y := nI (i + 3)) (nI_add i 3) ?_
  refine pw_sld S w hX hbl (j := (i + 3)) (by omega) hL dL_law_555 ?_
  refine lv_aload_n hx hb dL_law_556 rfl (lv_at hl 0 rfl) ?_
  refine lv_iload hx hb dL_law_557 (lv_at hl 4 rfl) ?_
  refine lv_iconst (v := 4) hx hb dL_law_559 (by decide) ?_
  refine lv_iadd hx hb dL_law_560 ?_
  refine pw_top (y := nI (i + 4)) (nI_add i 4) ?_
  refine pw_sld S w hX hbl (j := (i + 4)) (by omega) hL dL_law_561 ?_
  have w : pw_S D (px_T cI cO ++ [(cL, .long)]) (fun q => s.heap.size ≤ q) ([] ++ (pm_W m0 ad cI cd tm nf me nb sc gl nu si wh pl sm ms mg mn mk md ++ (px_W a0 af ab o ar cI cO fd nf sg nb lw aw tm G B ++ [(qo, .inl (cL, 1, .inr (.inl f)))]))) s _ _ := w
  refine pw_goi0 w (va_runV (C := RM) (As := [.int (xs (i + 1)), .int (xs (i + 2)), .int (xs (i + 3)), .int (xs (i + 4))]) (rest := [.int r1]) S (pm_c_has l D m0 ad cI cd tm nf me nb sc gl nu si wh pl sm ms mg mn mk md _ hW.1 (fun q => (wh q).toNatClampNeg) (fun q hq => by obtain ⟨z, -, e2, -, e4, -⟩ := hW.2.2.1 q hq; rw [e2, nI_clamp (by omega)]; exact ⟨rfl, e4⟩) (xs (i + 1)) (xs (i + 2)) (xs (i + 3)) (xs (i + 4))) (pw_cw (n := 4) S eL_72 iM_has sM_has iniM kM_has rfl rfl (by decide +kernel) ⟨by decide, by decide⟩) ⟨pw_blind, va_recv w.1 w.2.1 (ci := cM) (q0 := 0) rfl rfl, pw_pre w (w.1.sub [0] rfl)⟩ rfl rfl hl.1 rfl (lv_room (Nat.le_of_ble_eq_true rfl)) dL_law_562 ⟨Nat.le_of_succ_le hc, Nat.le_trans (Nat.le_add_right _ 6) hs⟩) (fun r2 _ H locs hp2 w => ?_)
  have w : pw_S D (px_T cI cO ++ [(cL, .long)]) (fun q => s.heap.size ≤ q) ((pm_W m0 ad cI 0 tm nf me nb sc gl nu si wh pl sm ms mg mn mk md ++ (px_W a0 af ab o ar cI cO fd nf sg nb lw aw tm G B ++ [(qo, .inl (cL, 1, .inr (.inl f)))]))) s _ _ := w
  have heq : r1 = r2 := by
    obtain ⟨x, hx1, e1⟩ := hp
    obtain ⟨y, hy1, e2⟩ := hp2
    have e3 := pr_fnd hW hx1 hy1
    subst e3
    have hiff : px_hs sg G B (xs (i + 4)) x ↔ pm_hs pl (fun q => (wh q).toNatClampNeg) (xs (i + 4)) x := by
      cases x with
      | none => exact Iff.rfl
      | some q9 =>
        obtain ⟨z, d1, d2, d3, d4, d5, d6⟩ := hW.2.2.1 q9 hx1.1
        have hz : (wh q9).toNatClampNeg = z := by rw [d2, nI_clamp (by omega)]
        have hsz : (G (sg q9)).2.2.2.1 = nI z := by rw [d1]; exact d2
        have hb : ∀ t : Int32, ¬ t < 0 → ¬ nI z ≤ t → (¬ B (sg q9) t.toNatClampNeg = -1 ↔ ¬ pl (1480 * q9 + t.toNatClampNeg) < 0) := by
          intro t h1 h2
          obtain ⟨t9, ht9, rfl⟩ := nI_of h1
          have hlt : t9 < z := Nat.lt_of_not_le (fun q => h2 (nI_le q (by omega)))
          rw [nI_clamp ht9]
          have e5 : pl (1480 * q9 + t9) = B (sg q9) t9 := d5 t9 (by omega)
          rw [e5]
          rcases d6 t9 (by omega) with y9 | y9
          · exact ⟨fun q => absurd y9 q, fun q => absurd (pr_neg y9) q⟩
          · exact ⟨fun _ => y9, fun _ q => y9 (pr_neg q)⟩
        constructor
        · rintro ⟨zs, f1, ⟨f2, f3, f4⟩, f5⟩
          have e9 : zs = z := px_sz (f1.symm.trans hsz) f5 d4
          subst e9
          exact ⟨f2, by dsimp only; rw [hz]; exact f3, (hb _ f2 f3).mp f4⟩
        · rintro ⟨f2, f3, f4⟩
          dsimp only at f3
          rw [hz] at f3
          exact ⟨z, hsz, ⟨f2, f3, (hb _ f2 f3).mpr f4⟩, d4⟩
    rcases e1 with ⟨g1, g2⟩ | ⟨g1, g2⟩ <;> rcases e2 with ⟨g3, g4⟩ | ⟨g3, g4⟩
    · rw [g1, g3]
    · exact absurd (hiff.mp g2) g4
    · exact absurd (hiff.mpr g4) g2
    · rw [g1, g3]
  refine W.widen (k := cells + 1) (n := slots + 6) (Nat.le_succ _) (Nat.le_add_right _ 6) ?_
  refine lv_icmp_eq (tgt := 583) hx hb dL_law_565 (by decide) (fun _ => ?_) (fun h9 => absurd heq h9)
  exact kk _ _ _ ⟨fd, nf, sg, nb, lw, aw, tm, G, B, 0, me, sc, gl, nu, si, wh, pl, sm, ms, mg, mn, mk, md, f, htm, hF, hW, hLs, w⟩ (lv_sub hl [0, 1, 2, 3, 4] rfl)

set_option maxHeartbeats 4000000 in
set_option maxRecDepth 100000 in
/-- the law's case: waiting -/
theorem pl_k_waiting {p : Program} {l : Launch} {e : Env} {s : State} {m : MethodId} {below : List Frame} {meth : Method} {c : Code} {b L : Nat} {xs : Nat → Int32} {D : va_G} {a0 af ab : Nat} {o ar : Nat → Nat} {cI cO : ClassId} {m0 : Nat} {ad : Nat → Nat} {qo : Nat} {cL : ClassId} {H : Heap} {locs : List Loc} {ls : Array Slot} {cells slots i : Nat} {Q : State → Prop}
    (hl9 : l.stackTraces = false) (S : pw_Fx p m c cL_law 7 s #[Value.ref b] RL) (hX : va_X b L xs s s.heap) (hbl : b < s.heap.size) (hL : L ≤ 3072) (hi : i + 6 ≤ L) (hc : cells + 1 ≤ 601024) (hs : slots + 6 ≤ 7293034) (st : pl_St D s a0 af ab o ar cI cO m0 ad qo cL H locs) (hl : lv_has ls 7 [(0, .ref b), (1, .ref a0), (2, .ref m0), (3, .ref qo), (4, .int (nI i))])
    (kk : ∀ (H1 : Heap) (locs1 : List Loc) (ls1 : Array Slot), pl_St D s a0 af ab o ar cI cO m0 ad qo cL H1 locs1 → lv_has ls1 7 [(0, .ref b), (1, .ref a0), (2, .ref m0), (3, .ref qo), (4, .int (nI i))] → W p l e room_1 s m #[Value.ref b] below meth c H1 locs1 (cells + 1) (slots + 6) Q (F0 m 583 ls1 [])) :
    W p l e room_1 s m #[Value.ref b] below meth c H locs cells slots Q (F0 m 570 ls []) := by
  obtain ⟨fd, nf, sg, nb, lw, aw, tm, G, B, cd, me, sc, gl, nu, si, wh, pl, sm, ms, mg, mn, mk, md, f, htm, hF, hW, hLs, w⟩ := st
  obtain ⟨hx, hb, hml, hown, hts⟩ := id S
  refine lv_aload_n hx hb dL_law_570 rfl (lv_at hl 1 rfl) ?_
  refine pw_goi0 w (va_runV (C := RP) (As := []) (rest := []) S (px_c_waiting l D a0 af ab o ar cI cO fd nf sg nb lw aw tm G B _ ) (pw_cw (n := 0) S eL_73 iP_waiting sP_waiting iniP kP_waiting rfl rfl (by decide +kernel) ⟨by decide, by decide⟩) ⟨pw_blind, va_recv w.1 w.2.1 (ci := cP) (q0 := 9) rfl rfl, pw_pre w (w.1.sub [0, 1] rfl)⟩ rfl rfl hl.1 rfl (lv_room (Nat.le_of_ble_eq_true rfl)) dL_law_571 ⟨Nat.le_of_succ_le hc, Nat.le_trans (Nat.le_add_right _ 6) hs⟩) (fun r1 _ H locs hp w => ?_)
  have w : pw_S D (px_T cI cO ++ [(cL, .long)]) (fun q => s.heap.size ≤ q) ((pm_W m0 ad cI cd tm nf me nb sc gl nu si wh pl sm ms mg mn mk md ++ (px_W a0 af ab o ar cI cO fd nf sg nb lw aw tm G B ++ [(qo, .inl (cL, 1, .inr (.inl f)))]))) s _ _ := w
  refine lv_aload_n hx hb dL_law_574 rfl (lv_at hl 2 rfl) ?_
  have w : pw_S D (px_T cI cO ++ [(cL, .long)]) (fun q => s.heap.size ≤ q) ([] ++ (pm_W m0 ad cI cd tm nf me nb sc gl nu si wh pl sm ms mg mn mk md ++ (px_W a0 af ab o ar cI cO fd nf sg nb lw aw tm G B ++ [(qo, .inl (cL, 1, .inr (.inl f)))]))) s _ _ := w
  refine pw_goi0 w (va_runV (C := RM) (As := []) (rest := [.int r1]) S (pm_c_waiting l D m0 ad cI cd tm nf me nb sc gl nu si wh pl sm ms mg mn mk md _ ) (pw_cw (n := 0) S eL_76 iM_waiting sM_waiting iniM kM_waiting rfl rfl (by decide +kernel) ⟨by decide, by decide⟩) ⟨pw_blind, va_recv w.1 w.2.1 (ci := cM) (q0 := 0) rfl rfl, pw_pre w (w.1.sub [0] rfl)⟩ rfl rfl hl.1 rfl (lv_room (Nat.le_of_ble_eq_true rfl)) dL_law_575 ⟨Nat.le_of_succ_le hc, Nat.le_trans (Nat.le_add_right _ 6) hs⟩) (fun r2 _ H locs hp2 w => ?_)
  have w : pw_S D (px_T cI cO ++ [(cL, .long)]) (fun q => s.heap.size ≤ q) ((pm_W m0 ad cI 0 tm nf me nb sc gl nu si wh pl sm ms mg mn mk md ++ (px_W a0 af ab o ar cI cO fd nf sg nb lw aw tm G B ++ [(qo, .inl (cL, 1, .inr (.inl f)))]))) s _ _ := w
  have heq : r1 = r2 := hp.trans hp2.symm
  refine W.widen (k := cells + 1) (n := slots + 6) (Nat.le_succ _) (Nat.le_add_right _ 6) ?_
  refine lv_icmp_eq (tgt := 583) hx hb dL_law_578 (by decide) (fun _ => ?_) (fun h9 => absurd heq h9)
  exact kk _ _ _ ⟨fd, nf, sg, nb, lw, aw, tm, G, B, 0, me, sc, gl, nu, si, wh, pl, sm, ms, mg, mn, mk, md, f, htm, hF, hW, hLs, w⟩ (lv_sub hl [0, 1, 2, 3, 4] rfl)
