set_option maxHeartbeats 4000000 in
set_option maxRecDepth 100000 in
/-- the law's case: feed -/
theorem pl_k_feed {p : Program} {l : Launch} {e : Env} {s : State} {m : MethodId} {below : List Frame} {meth : Method} {c : Code} {b L : Nat} {xs : Nat → Int32} {D : va_G} {a0 af ab : Nat} {o ar : Nat → Nat} {cI cO : ClassId} {m0 : Nat} {ad : Nat → Nat} {qo : Nat} {cL : ClassId} {H : Heap} {locs : List Loc} {ls : Array Slot} {cells slots i : Nat} {Q : State → Prop}
    (hl9 : l.stackTraces = false) (S : pw_Fx p m c cL_law 7 s #[Value.ref b] RL) (hX : va_X b L xs s s.heap) (hbl : b < s.heap.size) (hL : L ≤ 3072) (hi : i + 6 ≤ L) (hc : cells + 1 ≤ 601024) (hs : slots + 6 ≤ 7293034) (st : pl_St D s a0 af ab o ar cI cO m0 ad qo cL H locs) (hl : lv_has ls 7 [(0, .ref b), (1, .ref a0), (2, .ref m0), (3, .ref qo), (4, .int (nI i))])
    (kk : ∀ (H1 : Heap) (locs1 : List Loc) (ls1 : Array Slot), pl_St D s a0 af ab o ar cI cO m0 ad qo cL H1 locs1 → lv_has ls1 7 [(0, .ref b), (1, .ref a0), (2, .ref m0), (3, .ref qo), (4, .int (nI i))] → W p l e room_1 s m #[Value.ref b] below meth c H1 locs1 (cells + 1) (slots + 6) Q (F0 m 583 ls1 [])) :
    W p l e room_1 s m #[Value.ref b] below meth c H locs cells slots Q (F0 m 88 ls []) := by
  obtain ⟨fd, nf, sg, nb, lw, aw, tm, G, B, cd, me, sc, gl, nu, si, wh, pl, sm, ms, mg, mn, mk, md, f, htm, hF, hW, hLs, w⟩ := st
  obtain ⟨hx, hb, hml, hown, hts⟩ := id S
  refine lv_aload_n hx hb dL_law_88 rfl (lv_at hl 1 rfl) ?_
  refine lv_aload_n hx hb dL_law_89 rfl (lv_at hl 0 rfl) ?_
  refine lv_iload hx hb dL_law_90 (lv_at hl 4 rfl) ?_
  refine lv_iconst (v := 1) hx hb dL_law_92 (by decide) ?_
  refine lv_iadd hx hb dL_law_93 ?_
  refine pw_top (y := nI (i + 1)) (nI_add i 1) ?_
  refine pw_sld S w hX hbl (j := (i + 1)) (by omega) hL dL_law_94 ?_
  refine lv_i2l hx hb dL_law_95 rfl ?_
  refine lv_bipush (v := 32) hx hb dL_law_96 (by decide) ?_
  refine lv_lshl hx hb dL_law_98 rfl ?_
  refine lv_aload_n hx hb dL_law_99 rfl (lv_at hl 0 rfl) ?_
  refine lv_iload hx hb dL_law_100 (lv_at hl 4 rfl) ?_
  refine lv_iconst (v := 2) hx hb dL_law_102 (by decide) ?_
  refine lv_iadd hx hb dL_law_103 ?_
  refine pw_top (y := nI (i + 2)) (nI_add i 2) ?_
  refine pw_sld S w hX hbl (j := (i + 2)) (by omega) hL dL_law_104 ?_
  refine lv_i2l hx hb dL_law_105 rfl ?_
  refine lv_ldc2 (v := 4294967295) hx hb hown (hts _ cL_37) dL_law_106 ?_
  refine lv_land hx hb dL_law_109 ?_
  refine lv_lor hx hb dL_law_110 ?_
  refine lv_aload_n hx hb dL_law_111 rfl (lv_at hl 0 rfl) ?_
  refine lv_iload hx hb dL_law_112 (lv_at hl 4 rfl) ?_
  refine lv_iconst (v := 3) hx hb dL_law_114 (by decide) ?_
  refine lv_iadd hx hb dL_law_115 ?_
  refine pw_top (y := nI (i + 3)) (nI_add i 3) ?_
  refine pw_sld S w hX hbl (j := (i + 3)) (by omega) hL dL_law_116 ?_
  refine lv_aload_n hx hb dL_law_117 rfl (lv_at hl 3 rfl) ?_
  have w1 : pw_S D (px_T cI cO ++ [(cL, .long)]) (fun q => s.heap.size ≤ q) (pm_W m0 ad cI cd tm nf me nb sc gl nu si wh pl sm ms mg mn mk md ++ ((px_W a0 af ab o ar cI cO fd nf sg nb lw aw tm G B ++ [(qo, .inl (cL, 1, .inr (.inl f)))]) ++ [])) s _ _ := w.to (by rw [List.append_nil])
  refine pw_goi w1 (vx_runSW (As := [.ref a0, .long (((xs (i + 1)).toInt64 <<< ((32 : Int32).toInt64 &&& 63)) ||| ((xs (i + 2)).toInt64 &&& 4294967295)), .int (xs (i + 3)), .ref qo]) (rest := []) S (pl_c_feed l D a0 af ab o ar cI cO fd nf sg nb lw aw tm G B _ qo cL f hl9 hF.1 (((xs (i + 1)).toInt64 <<< ((32 : Int32).toInt64 &&& 63)) ||| ((xs (i + 2)).toInt64 &&& 4294967295)) (xs (i + 3))) (pw_cW (n := 4) S eL_39 tL_feed iniL kL_feed rfl rfl (by decide +kernel) ⟨by decide, by decide⟩) ⟨pw_blind, pw_pre w1 w1.1⟩ rfl rfl hl.1 rfl (lv_room (Nat.le_of_ble_eq_true rfl)) dL_law_118 ⟨hc, hs⟩) (fun k u H locs hp w => ?_)
  clear w1
  obtain ⟨x9, f1⟩ := u
  cases x9 with
  | none =>
    have w : pw_S D (px_T cI cO ++ [(cL, .long)]) (fun q => s.heap.size ≤ q) (pm_W m0 ad cI cd tm nf me nb sc gl nu si wh pl sm ms mg mn mk md ++ ((px_W a0 af ab o ar cI cO fd nf sg nb lw aw tm G B ++ [(qo, .inl (cL, 1, .inr (.inl f1)))]) ++ [])) s _ _ := w
    have w : pw_S D (px_T cI cO ++ [(cL, .long)]) (fun q => s.heap.size ≤ q) (pm_W m0 ad cI cd tm nf me nb sc gl nu si wh pl sm ms mg mn mk md ++ (px_W a0 af ab o ar cI cO fd nf sg nb lw aw tm G B ++ [(qo, .inl (cL, 1, .inr (.inl f1)))])) s _ _ := w.to (by rw [List.append_nil])
    have hp : (k = 1 ∧ ¬ (1 ≤ (xs (i + 3)).toInt ∧ (xs (i + 3)).toInt ≤ 8)) ∨ (k = 2 ∧ (1 ≤ (xs (i + 3)).toInt ∧ (xs (i + 3)).toInt ≤ 8) ∧ 1480 < (nf : Int) + (xs (i + 3)).toInt) := hp
    have hk0 : ¬ k = 0 := by rcases hp with ⟨rfl, -⟩ | ⟨rfl, -⟩ <;> decide
    refine lv_istore (lv' := [(5, .int k), (0, .ref b), (1, .ref a0), (2, .ref m0), (3, .ref qo), (4, .int (nI i))]) hx hb dL_law_121 hl (by decide) rfl (fun ls hl => ?_)
    refine lv_aload_n hx hb dL_law_123 rfl (lv_at hl 3 rfl) ?_
    refine lv_aload_n hx hb dL_law_124 rfl (lv_at hl 1 rfl) ?_
    refine lv_iload hx hb dL_law_125 (lv_at hl 5 rfl) ?_
    refine lv_iconst (v := 1) hx hb dL_law_127 (by decide) ?_
    refine lv_iadd hx hb dL_law_128 ?_
    refine pw_top (y := nI (i + 1)) (nI_add i 1) ?_
    refine pw_sld S w hX hbl (j := (i + 1)) (by omega) hL dL_law_129 ?_
    refine lv_i2l hx hb dL_law_130 rfl ?_
    refine lv_bipush (v := 32) hx hb dL_law_131 (by decide) ?_
    refine lv_lshl hx hb dL_law_133 rfl ?_
    refine lv_aload_n hx hb dL_law_134 rfl (lv_at hl 1 rfl) ?_
    refine lv_iload hx hb dL_law_135 (lv_at hl 5 rfl) ?_
    refine lv_iconst (v := 2) hx hb dL_law_137 (by decide) ?_
    refine lv_iadd hx hb dL_law_138 ?_
    refine pw_top (y := nI (i + 2)) (nI_add i 2) ?_
    refine pw_sld S w hX hbl (j := (i + 2)) (by omega) hL dL_law_139 ?_
    refine lv_i2l hx hb dL_law_140 rfl ?_
    refine lv_ldc2 (v := 4294967295) hx hb hown (hts _ cL_37) dL_law_141 ?_
    refine lv_land hx hb dL_law_144 ?_
    refine lv_lor hx hb dL_law_145 ?_
    refine lv_aload_n hx hb dL_law_146 rfl (lv_at hl 1 rfl) ?_
    refine lv_iload hx hb dL_law_147 (lv_at hl 5 rfl) ?_
    refine lv_iconst (v := 3) hx hb dL_law_149 (by decide) ?_
    refine lv_iadd hx hb dL_law_150 ?_
    refine pw_top (y := nI (i + 3)) (nI_add i 3) ?_
    refine pw_sld S w hX hbl (j := (i + 3)) (by omega) hL dL_law_151 ?_
    have w : pw_S D (px_T cI cO ++ [(cL, .long)]) (fun q => s.heap.size ≤ q) ([] ++ (pm_W m0 ad cI cd tm nf me nb sc gl nu si wh pl sm ms mg mn mk md ++ (px_W a0 af ab o ar cI cO fd nf sg nb lw aw tm G B ++ [(qo, .inl (cL, 1, .inr (.inl f1)))]))) s _ _ := w
    refine pw_goi0 w (va_runV (C := RM) (As := [.long (((xs (i + 1)).toInt64 <<< ((32 : Int32).toInt64 &&& 63)) ||| ((xs (i + 2)).toInt64 &&& 4294967295)), .int (xs (i + 3))]) (rest := []) S (pm_c_feed l D m0 ad cI cd tm nf me nb sc gl nu si wh pl sm ms mg mn mk md _ hF.1 (((xs (i + 1)).toInt64 <<< ((32 : Int32).toInt64 &&& 63)) ||| ((xs (i + 2)).toInt64 &&& 4294967295)) (xs (i + 3))) (pw_cw (n := 2) S eL_44 iM_feed sM_feed iniM kM_feed rfl rfl (by decide +kernel) ⟨by decide, by decide⟩) ⟨pw_blind, va_recv w.1 w.2.1 (ci := cM) (q0 := 0) rfl rfl, pw_pre w (w.1.sub [0] rfl)⟩ rfl rfl hl.1 rfl (lv_room (Nat.le_of_ble_eq_true rfl)) dL_law_152 ⟨hc, hs⟩) (fun r2 u2 H locs hp2 w => ?_)
    have key : u2 = (k, nf, me) := by
      rcases hp with ⟨rfl, h1⟩ | ⟨rfl, h1, h2⟩ <;> rcases hp2 with ⟨h3, h4⟩ | ⟨h3, h4, h5⟩ | ⟨n9, g1, g2, g3, g4, g5, g6⟩
      · exact h3
      · exact absurd h4 h1
      · exact absurd (by rw [g3, nI_toInt (by omega)]; omega) h1
      · exact absurd h1 h4
      · exact h3
      · exact absurd h2 (by rw [g3, nI_toInt (by omega)]; omega)
    subst key
    refine lv_istore (lv' := [(6, .int r2), (5, .int k), (0, .ref b), (1, .ref a0), (2, .ref m0), (3, .ref qo), (4, .int (nI i))]) hx hb dL_law_155 hl (by decide) rfl (fun ls hl => ?_)
    refine lv_aload_n hx hb dL_law_157 rfl (lv_at hl 4 rfl) ?_
    have w : pw_S D (px_T cI cO ++ [(cL, .long)]) (fun q => s.heap.size ≤ q) ([] ++ (pm_W m0 ad cI k tm nf me nb sc gl nu si wh pl sm ms mg mn mk md ++ (px_W a0 af ab o ar cI cO fd nf sg nb lw aw tm G B ++ [(qo, .inl (cL, 1, .inr (.inl f1)))]))) s _ _ := w
    refine pw_goi0 w (va_runV (C := RM) (As := []) (rest := []) S (pm_c_thrown l D m0 ad cI k tm nf me nb sc gl nu si wh pl sm ms mg mn mk md _ ) (pw_cw (n := 0) S eL_45 iM_thrown sM_thrown iniM kM_thrown rfl rfl (by decide +kernel) ⟨by decide, by decide⟩) ⟨pw_blind, va_recv w.1 w.2.1 (ci := cM) (q0 := 0) rfl rfl, pw_pre w (w.1.sub [0] rfl)⟩ rfl rfl hl.1 rfl (lv_room (Nat.le_of_ble_eq_true rfl)) dL_law_158 ⟨hc, hs⟩) (fun r3 _ H locs hp3 w => ?_)
    have w : pw_S D (px_T cI cO ++ [(cL, .long)]) (fun q => s.heap.size ≤ q) ((pm_W m0 ad cI k tm nf me nb sc gl nu si wh pl sm ms mg mn mk md ++ (px_W a0 af ab o ar cI cO fd nf sg nb lw aw tm G B ++ [(qo, .inl (cL, 1, .inr (.inl f1)))]))) s _ _ := w
    refine lv_iload hx hb dL_law_161 (lv_at hl 1 rfl) ?_
    refine lv_icmp_eq (tgt := 168) hx hb dL_law_163 (by decide) (fun _ => ?_) (fun h9 => absurd hp3 h9)
    refine lv_iload hx hb dL_law_168 (lv_at hl 1 rfl) ?_
    refine lv_if_ne (tgt := 185) hx hb dL_law_170 (by decide) (fun _ => ?_) (fun h9 => absurd h9 hk0)
    refine lv_goto (tgt := 583) hx hb dL_law_185 (by decide) ?_
    exact kk _ _ _ ⟨fd, nf, sg, nb, lw, aw, tm, G, B, k, me, sc, gl, nu, si, wh, pl, sm, ms, mg, mn, mk, md, f1, htm, hF, hW, hLs, w⟩ (lv_sub hl [2, 3, 4, 5, 6] rfl)
  | some u1 =>
    obtain ⟨n1, fd1⟩ := u1
    obtain ⟨rfl, r, ⟨q1, q2, q3, q4, q5, q6⟩, hf1⟩ := hp
    have w : pw_S D (px_T cI cO ++ [(cL, .long)]) (fun q => s.heap.size ≤ q) (pm_W m0 ad cI cd tm nf me nb sc gl nu si wh pl sm ms mg mn mk md ++ ((px_W a0 af ab o ar cI cO fd1 (nf + n1) sg nb lw aw tm G B ++ [(qo, .inl (cL, 1, .inr (.inl f1)))]) ++ [])) s _ _ := w
    have w : pw_S D (px_T cI cO ++ [(cL, .long)]) (fun q => s.heap.size ≤ q) (pm_W m0 ad cI cd tm nf me nb sc gl nu si wh pl sm ms mg mn mk md ++ (px_W a0 af ab o ar cI cO fd1 (nf + n1) sg nb lw aw tm G B ++ [(qo, .inl (cL, 1, .inr (.inl f1)))])) s _ _ := w.to (by rw [List.append_nil])
    dsimp only at q1 q2 q3 q4 q5 q6 hf1
    refine lv_istore (lv' := [(5, .int 0), (0, .ref b), (1, .ref a0), (2, .ref m0), (3, .ref qo), (4, .int (nI i))]) hx hb dL_law_121 hl (by decide) rfl (fun ls hl => ?_)
    refine lv_aload_n hx hb dL_law_123 rfl (lv_at hl 3 rfl) ?_
    refine lv_aload_n hx hb dL_law_124 rfl (lv_at hl 1 rfl) ?_
    refine lv_iload hx hb dL_law_125 (lv_at hl 5 rfl) ?_
    refine lv_iconst (v := 1) hx hb dL_law_127 (by decide) ?_
    refine lv_iadd hx hb dL_law_128 ?_
    refine pw_top (y := nI (i + 1)) (nI_add i 1) ?_
    refine pw_sld S w hX hbl (j := (i + 1)) (by omega) hL dL_law_129 ?_
    refine lv_i2l hx hb dL_law_130 rfl ?_
    refine lv_bipush (v := 32) hx hb dL_law_131 (by decide) ?_
    refine lv_lshl hx hb dL_law_133 rfl ?_
    refine lv_aload_n hx hb dL_law_134 rfl (lv_at hl 1 rfl) ?_
    refine lv_iload hx hb dL_law_135 (lv_at hl 5 rfl) ?_
    refine lv_iconst (v := 2) hx hb dL_law_137 (by decide) ?_
    refine lv_iadd hx hb dL_law_138 ?_
    refine pw_top (y := nI (i + 2)) (nI_add i 2) ?_
    refine pw_sld S w hX hbl (j := (i + 2)) (by omega) hL dL_law_139 ?_
    refine lv_i2l hx hb dL_law_140 rfl ?_
    refine lv_ldc2 (v := 4294967295) hx hb hown (hts _ cL_37) dL_law_141 ?_
    refine lv_land hx hb dL_law_144 ?_
    refine lv_lor hx hb dL_law_145 ?_
    refine lv_aload_n hx hb dL_law_146 rfl (lv_at hl 1 rfl) ?_
    refine lv_iload hx hb dL_law_147 (lv_at hl 5 rfl) ?_
    refine lv_iconst (v := 3) hx hb dL_law_149 (by decide) ?_
    refine lv_iadd hx hb dL_law_150 ?_
    refine pw_top (y := nI (i + 3)) (nI_add i 3) ?_
    refine pw_sld S w hX hbl (j := (i + 3)) (by omega) hL dL_law_151 ?_
    have w : pw_S D (px_T cI cO ++ [(cL, .long)]) (fun q => s.heap.size ≤ q) ([] ++ (pm_W m0 ad cI cd tm nf me nb sc gl nu si wh pl sm ms mg mn mk md ++ (px_W a0 af ab o ar cI cO fd1 (nf + n1) sg nb lw aw tm G B ++ [(qo, .inl (cL, 1, .inr (.inl f1)))]))) s _ _ := w
    refine pw_goi0 w (va_runV (C := RM) (As := [.long (((xs (i + 1)).toInt64 <<< ((32 : Int32).toInt64 &&& 63)) ||| ((xs (i + 2)).toInt64 &&& 4294967295)), .int (xs (i + 3))]) (rest := []) S (pm_c_feed l D m0 ad cI cd tm nf me nb sc gl nu si wh pl sm ms mg mn mk md _ hF.1 (((xs (i + 1)).toInt64 <<< ((32 : Int32).toInt64 &&& 63)) ||| ((xs (i + 2)).toInt64 &&& 4294967295)) (xs (i + 3))) (pw_cw (n := 2) S eL_44 iM_feed sM_feed iniM kM_feed rfl rfl (by decide +kernel) ⟨by decide, by decide⟩) ⟨pw_blind, va_recv w.1 w.2.1 (ci := cM) (q0 := 0) rfl rfl, pw_pre w (w.1.sub [0] rfl)⟩ rfl rfl hl.1 rfl (lv_room (Nat.le_of_ble_eq_true rfl)) dL_law_152 ⟨hc, hs⟩) (fun r2 u2 H locs hp2 w => ?_)
    have hni : (xs (i + 3)).toInt = n1 := by rw [q3, nI_toInt (by omega)]
    have key : u2 = (0, nf + n1, pm_fd me nf (((xs (i + 1)).toInt64 <<< ((32 : Int32).toInt64 &&& 63)) ||| ((xs (i + 2)).toInt64 &&& 4294967295)) n1 n1) ∧ r2 = nI (nf + n1) := by
      rcases hp2 with ⟨h3, h4⟩ | ⟨h3, h4, h5⟩ | ⟨n9, g1, g2, g3, g4, g5, g6⟩
      · exact absurd (by rw [hni]; omega) h4
      · rw [hni] at h5; omega
      · have e9 : n9 = n1 := (nI_eq (by omega) (by omega)).mp (g3.symm.trans q3)
        subst e9
        exact ⟨g5, g6⟩
    obtain ⟨rfl, hr2⟩ := key
    have hans : f1 0 = r2.toInt64 := by rw [hf1, q6, hr2]
    have hF2 : pr_F fd1 (nf + n1) (pm_fd me nf (((xs (i + 1)).toInt64 <<< ((32 : Int32).toInt64 &&& 63)) ||| ((xs (i + 2)).toInt64 &&& 4294967295)) n1 n1) := by rw [q5, q3]; exact pr_feed _ hF q1 q2 q4
    refine lv_istore (lv' := [(6, .int r2), (5, .int 0), (0, .ref b), (1, .ref a0), (2, .ref m0), (3, .ref qo), (4, .int (nI i))]) hx hb dL_law_155 hl (by decide) rfl (fun ls hl => ?_)
    refine lv_aload_n hx hb dL_law_157 rfl (lv_at hl 4 rfl) ?_
    have w : pw_S D (px_T cI cO ++ [(cL, .long)]) (fun q => s.heap.size ≤ q) ([] ++ (pm_W m0 ad cI 0 tm (nf + n1) (pm_fd me nf (((xs (i + 1)).toInt64 <<< ((32 : Int32).toInt64 &&& 63)) ||| ((xs (i + 2)).toInt64 &&& 4294967295)) n1 n1) nb sc gl nu si wh pl sm ms mg mn mk md ++ (px_W a0 af ab o ar cI cO fd1 (nf + n1) sg nb lw aw tm G B ++ [(qo, .inl (cL, 1, .inr (.inl f1)))]))) s _ _ := w
    refine pw_goi0 w (va_runV (C := RM) (As := []) (rest := []) S (pm_c_thrown l D m0 ad cI 0 tm (nf + n1) (pm_fd me nf (((xs (i + 1)).toInt64 <<< ((32 : Int32).toInt64 &&& 63)) ||| ((xs (i + 2)).toInt64 &&& 4294967295)) n1 n1) nb sc gl nu si wh pl sm ms mg mn mk md _ ) (pw_cw (n := 0) S eL_45 iM_thrown sM_thrown iniM kM_thrown rfl rfl (by decide +kernel) ⟨by decide, by decide⟩) ⟨pw_blind, va_recv w.1 w.2.1 (ci := cM) (q0 := 0) rfl rfl, pw_pre w (w.1.sub [0] rfl)⟩ rfl rfl hl.1 rfl (lv_room (Nat.le_of_ble_eq_true rfl)) dL_law_158 ⟨hc, hs⟩) (fun r3 _ H locs hp3 w => ?_)
    have w : pw_S D (px_T cI cO ++ [(cL, .long)]) (fun q => s.heap.size ≤ q) ((pm_W m0 ad cI 0 tm (nf + n1) (pm_fd me nf (((xs (i + 1)).toInt64 <<< ((32 : Int32).toInt64 &&& 63)) ||| ((xs (i + 2)).toInt64 &&& 4294967295)) n1 n1) nb sc gl nu si wh pl sm ms mg mn mk md ++ (px_W a0 af ab o ar cI cO fd1 (nf + n1) sg nb lw aw tm G B ++ [(qo, .inl (cL, 1, .inr (.inl f1)))]))) s _ _ := w
    refine lv_iload hx hb dL_law_161 (lv_at hl 1 rfl) ?_
    refine lv_icmp_eq (tgt := 168) hx hb dL_law_163 (by decide) (fun _ => ?_) (fun h9 => absurd hp3 h9)
    refine lv_iload hx hb dL_law_168 (lv_at hl 1 rfl) ?_
    refine lv_if_ne (tgt := 185) hx hb dL_law_170 (by decide) (fun h9 => absurd rfl h9) (fun _ => ?_)
    refine lv_aload_n hx hb dL_law_173 rfl (lv_at hl 5 rfl) ?_
    refine lv_iconst (v := 0) hx hb dL_law_174 (by decide) ?_
    refine pw_lald S w 22 2 (x := qo) (f := f1) (n := 1) (cA := cL) rfl rfl (j := 0) (by decide) (by decide) dL_law_175 ?_
    refine lv_iload hx hb dL_law_176 (lv_at hl 0 rfl) ?_
    refine lv_i2l hx hb dL_law_178 rfl ?_
    refine W.lcmp hx hb dL_law_179 ?_
    refine lv_if_eq (tgt := 185) hx hb dL_law_180 (by decide) (fun _ => ?_) (fun h9 => absurd (by rw [hans]; exact pl_cmp _) h9)
    refine lv_goto (tgt := 583) hx hb dL_law_185 (by decide) ?_
    exact kk _ _ _ ⟨fd1, (nf + n1), sg, nb, lw, aw, tm, G, B, 0, _, sc, gl, nu, si, wh, pl, sm, ms, mg, mn, mk, md, f1, htm, hF2, hW, hLs, w⟩ (lv_sub hl [2, 3, 4, 5, 6] rfl)
