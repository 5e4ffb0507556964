set_option maxHeartbeats 4000000 in
set_option maxRecDepth 100000 in
/-- the law's case: piece -/
theorem pl_k_piece {p : Program} {l : Launch} {e : Env} {s : State} {m : MethodId} {below : List Frame} {meth : Method} {c : Code} {b L : Nat} {xs : Nat → Int32} {D : va_G} {a0 af ab : Nat} {o ar : Nat → Nat} {cI cO : ClassId} {m0 : Nat} {ad : Nat → Nat} {qo : Nat} {cL : ClassId} {H : Heap} {locs : List Loc} {ls : Array Slot} {cells slots i : Nat} {Q : State → Prop}
    (hl9 : l.stackTraces = false) (S : pw_Fx p m c cL_law 7 s #[Value.ref b] RL) (hX : va_X b L xs s s.heap) (hbl : b < s.heap.size) (hL : L ≤ 3072) (hi : i + 6 ≤ L) (hc : cells + 1 ≤ 601024) (hs : slots + 6 ≤ 7293034) (st : pl_St D s a0 af ab o ar cI cO m0 ad qo cL H locs) (hl : lv_has ls 7 [(0, .ref b), (1, .ref a0), (2, .ref m0), (3, .ref qo), (4, .int (nI i))])
    (kk : ∀ (H1 : Heap) (locs1 : List Loc) (ls1 : Array Slot), pl_St D s a0 af ab o ar cI cO m0 ad qo cL H1 locs1 → lv_has ls1 7 [(0, .ref b), (1, .ref a0), (2, .ref m0), (3, .ref qo), (4, .int (nI i))] → W p l e room_1 s m #[Value.ref b] below meth c H1 locs1 (cells + 1) (slots + 6) Q (F0 m 583 ls1 [])) :
    W p l e room_1 s m #[Value.ref b] below meth c H locs cells slots Q (F0 m 188 ls []) := by
  obtain ⟨fd, nf, sg, nb, lw, aw, tm, G, B, cd, me, sc, gl, nu, si, wh, pl, sm, ms, mg, mn, mk, md, f, htm, hF, hW, hLs, w⟩ := st
  obtain ⟨hx, hb, hml, hown, hts⟩ := id S
  refine lv_aload_n hx hb dL_law_188 rfl (lv_at hl 1 rfl) ?_
  refine lv_aload_n hx hb dL_law_189 rfl (lv_at hl 0 rfl) ?_
  refine lv_iload hx hb dL_law_190 (lv_at hl 4 rfl) ?_
  refine lv_iconst (v := 1) hx hb dL_law_192 (by decide) ?_
  refine lv_iadd hx hb dL_law_193 ?_
  refine pw_top (y := nI (i + 1)) (nI_add i 1) ?_
  refine pw_sld S w hX hbl (j := (i + 1)) (by omega) hL dL_law_194 ?_
  refine lv_aload_n hx hb dL_law_195 rfl (lv_at hl 0 rfl) ?_
  refine lv_iload hx hb dL_law_196 (lv_at hl 4 rfl) ?_
  refine lv_iconst (v := 2) hx hb dL_law_198 (by decide) ?_
  refine lv_iadd hx hb dL_law_199 ?_
  refine pw_top (y := nI (i + 2)) (nI_add i 2) ?_
  refine pw_sld S w hX hbl (j := (i + 2)) (by omega) hL dL_law_200 ?_
  refine lv_aload_n hx hb dL_law_201 rfl (lv_at hl 0 rfl) ?_
  refine lv_iload hx hb dL_law_202 (lv_at hl 4 rfl) ?_
  refine lv_iconst (v := 3) hx hb dL_law_204 (by decide) ?_
  refine lv_iadd hx hb dL_law_205 ?_
  refine pw_top (y := nI (i + 3)) (nI_add i 3) ?_
  refine pw_sld S w hX hbl (j := (i + 3)) (by omega) hL dL_law_206 ?_
  refine lv_aload_n hx hb dL_law_207 rfl (lv_at hl 0 rfl) ?_
  refine lv_iload hx hb dL_law_208 (lv_at hl 4 rfl) ?_
  refine lv_iconst (v := 4) hx hb dL_law_210 (by decide) ?_
  refine lv_iadd hx hb dL_law_211 ?_
  refine pw_top (y := nI (i + 4)) (nI_add i 4) ?_
  refine pw_sld S w hX hbl (j := (i + 4)) (by omega) hL dL_law_212 ?_
  refine lv_aload_n hx hb dL_law_213 rfl (lv_at hl 0 rfl) ?_
  refine lv_iload hx hb dL_law_214 (lv_at hl 4 rfl) ?_
  refine lv_iconst (v := 5) hx hb dL_law_216 (by decide) ?_
  refine lv_iadd hx hb dL_law_217 ?_
  refine pw_top (y := nI (i + 5)) (nI_add i 5) ?_
  refine pw_sld S w hX hbl (j := (i + 5)) (by omega) hL dL_law_218 ?_
  refine lv_aload_n hx hb dL_law_219 rfl (lv_at hl 3 rfl) ?_
  have w1 : pw_S D (px_T cI cO ++ [(cL, .long)]) (fun q => s.heap.size ≤ q) (pm_W m0 ad cI cd tm nf me nb sc gl nu si wh pl sm ms mg mn mk md ++ ((px_W a0 af ab o ar cI cO fd nf sg nb lw aw tm G B ++ [(qo, .inl (cL, 1, .inr (.inl f)))]) ++ [])) s _ _ := w.to (by rw [List.append_nil])
  refine pw_goi w1 (vx_runSW (As := [.ref a0, .int (xs (i + 1)), .int (xs (i + 2)), .int (xs (i + 3)), .int (xs (i + 4)), .int (xs (i + 5)), .ref qo]) (rest := []) S (pl_c_piece l D a0 af ab o ar cI cO fd nf sg nb lw aw tm G B _ qo cL f hl9 hF.1 hW.1 hW.2.1.1 hW.2.1.2.1 (xs (i + 1)) (xs (i + 2)) (xs (i + 3)) (xs (i + 4)) (xs (i + 5))) (pw_cW (n := 7) S eL_49 tL_piece iniL kL_piece rfl rfl (by decide +kernel) ⟨by decide, by decide⟩) ⟨pw_blind, pw_pre w1 w1.1⟩ rfl rfl hl.1 rfl (lv_room (Nat.le_of_ble_eq_true rfl)) dL_law_220 ⟨hc, hs⟩) (fun k u H locs hp w => ?_)
  clear w1
  obtain ⟨x9, f1⟩ := u
  cases x9 with
  | none =>
    have w : pw_S D (px_T cI cO ++ [(cL, .long)]) (fun q => s.heap.size ≤ q) (pm_W m0 ad cI cd tm nf me nb sc gl nu si wh pl sm ms mg mn mk md ++ ((px_W a0 af ab o ar cI cO fd nf sg nb lw aw tm G B ++ [(qo, .inl (cL, 1, .inr (.inl f1)))]) ++ [])) s _ _ := w
    have w : pw_S D (px_T cI cO ++ [(cL, .long)]) (fun q => s.heap.size ≤ q) (pm_W m0 ad cI cd tm nf me nb sc gl nu si wh pl sm ms mg mn mk md ++ (px_W a0 af ab o ar cI cO fd nf sg nb lw aw tm G B ++ [(qo, .inl (cL, 1, .inr (.inl f1)))])) s _ _ := w.to (by rw [List.append_nil])
    have hp : (k = 1 ∧ ¬ (1 ≤ (xs (i + 5)).toInt ∧ (xs (i + 5)).toInt ≤ 1480 ∧ 0 ≤ (xs (i + 4)).toInt)) ∨ (k = 2 ∧ (1 ≤ (xs (i + 5)).toInt ∧ (xs (i + 5)).toInt ≤ 1480 ∧ 0 ≤ (xs (i + 4)).toInt) ∧ ¬ (0 < nf ∧ (xs (i + 4)).toInt + nf ≤ (xs (i + 5)).toInt)) := hp
    have hk0 : ¬ k = 0 := by rcases hp with ⟨rfl, -⟩ | ⟨rfl, -⟩ <;> decide
    refine lv_istore (lv' := [(5, .int k), (0, .ref b), (1, .ref a0), (2, .ref m0), (3, .ref qo), (4, .int (nI i))]) hx hb dL_law_223 hl (by decide) rfl (fun ls hl => ?_)
    refine lv_aload_n hx hb dL_law_225 rfl (lv_at hl 3 rfl) ?_
    refine lv_aload_n hx hb dL_law_226 rfl (lv_at hl 1 rfl) ?_
    refine lv_iload hx hb dL_law_227 (lv_at hl 5 rfl) ?_
    refine lv_iconst (v := 1) hx hb dL_law_229 (by decide) ?_
    refine lv_iadd hx hb dL_law_230 ?_
    refine pw_top (y := nI (i + 1)) (nI_add i 1) ?_
    refine pw_sld S w hX hbl (j := (i + 1)) (by omega) hL dL_law_231 ?_
    refine lv_aload_n hx hb dL_law_232 rfl (lv_at hl 1 rfl) ?_
    refine lv_iload hx hb dL_law_233 (lv_at hl 5 rfl) ?_
    refine lv_iconst (v := 2) hx hb dL_law_235 (by decide) ?_
    refine lv_iadd hx hb dL_law_236 ?_
    refine pw_top (y := nI (i + 2)) (nI_add i 2) ?_
    refine pw_sld S w hX hbl (j := (i + 2)) (by omega) hL dL_law_237 ?_
    refine lv_aload_n hx hb dL_law_238 rfl (lv_at hl 1 rfl) ?_
    refine lv_iload hx hb dL_law_239 (lv_at hl 5 rfl) ?_
    refine lv_iconst (v := 3) hx hb dL_law_241 (by decide) ?_
    refine lv_iadd hx hb dL_law_242 ?_
    refine pw_top (y := nI (i + 3)) (nI_add i 3) ?_
    refine pw_sld S w hX hbl (j := (i + 3)) (by omega) hL dL_law_243 ?_
    refine lv_aload_n hx hb dL_law_244 rfl (lv_at hl 1 rfl) ?_
    refine lv_iload hx hb dL_law_245 (lv_at hl 5 rfl) ?_
    refine lv_iconst (v := 4) hx hb dL_law_247 (by decide) ?_
    refine lv_iadd hx hb dL_law_248 ?_
    refine pw_top (y := nI (i + 4)) (nI_add i 4) ?_
    refine pw_sld S w hX hbl (j := (i + 4)) (by omega) hL dL_law_249 ?_
    refine lv_aload_n hx hb dL_law_250 rfl (lv_at hl 1 rfl) ?_
    refine lv_iload hx hb dL_law_251 (lv_at hl 5 rfl) ?_
    refine lv_iconst (v := 5) hx hb dL_law_253 (by decide) ?_
    refine lv_iadd hx hb dL_law_254 ?_
    refine pw_top (y := nI (i + 5)) (nI_add i 5) ?_
    refine pw_sld S w hX hbl (j := (i + 5)) (by omega) hL dL_law_255 ?_
    have w : pw_S D (px_T cI cO ++ [(cL, .long)]) (fun q => s.heap.size ≤ q) ([] ++ (pm_W m0 ad cI cd tm nf me nb sc gl nu si wh pl sm ms mg mn mk md ++ (px_W a0 af ab o ar cI cO fd nf sg nb lw aw tm G B ++ [(qo, .inl (cL, 1, .inr (.inl f1)))]))) s _ _ := w
    refine pw_goi0 w (va_runV (C := RM) (As := [.int (xs (i + 1)), .int (xs (i + 2)), .int (xs (i + 3)), .int (xs (i + 4)), .int (xs (i + 5))]) (rest := []) S (pm_c_piece l D m0 ad cI cd tm nf me nb sc gl nu si wh pl sm ms mg mn mk md _ hF.1 hW.1 (xs (i + 1)) (xs (i + 2)) (xs (i + 3)) (xs (i + 4)) (xs (i + 5))) (pw_cw (n := 5) S eL_52 iM_piece sM_piece iniM kM_piece rfl rfl (by decide +kernel) ⟨by decide, by decide⟩) ⟨pw_blind, va_recv w.1 w.2.1 (ci := cM) (q0 := 0) rfl rfl, pw_pre w (w.1.sub [0] rfl)⟩ rfl rfl hl.1 rfl (lv_room (Nat.le_of_ble_eq_true rfl)) dL_law_256 ⟨hc, hs⟩) (fun r2 u2 H locs hp2 w => ?_)
    have key : u2 = (k, nf, nb, sc, gl, nu, si, wh, pl, sm, ms, mg, mn, mk, md) := by
      rcases hp with ⟨rfl, h1⟩ | ⟨rfl, h1, h2⟩ <;> rcases hp2 with ⟨h3, h4⟩ | ⟨h3, h4, h5⟩ | ⟨fr, w0, x, g1, g2, g3, g4, g5, g6, -⟩
      · exact h3
      · exact absurd h4 h1
      · exact absurd (by rw [g1, g2, nI_toInt (by omega), nI_toInt (by omega)]; omega) h1
      · exact absurd h1 h4
      · exact h3
      · exact absurd (by rw [g1, g2, nI_toInt (by omega), nI_toInt (by omega)]; omega) h2
    subst key
    refine lv_istore (lv' := [(6, .int r2), (5, .int k), (0, .ref b), (1, .ref a0), (2, .ref m0), (3, .ref qo), (4, .int (nI i))]) hx hb dL_law_259 hl (by decide) rfl (fun ls hl => ?_)
    refine lv_aload_n hx hb dL_law_261 rfl (lv_at hl 4 rfl) ?_
    have w : pw_S D (px_T cI cO ++ [(cL, .long)]) (fun q => s.heap.size ≤ q) ([] ++ (pm_W m0 ad cI k tm nf me nb sc gl nu si wh pl sm ms mg mn mk md ++ (px_W a0 af ab o ar cI cO fd nf sg nb lw aw tm G B ++ [(qo, .inl (cL, 1, .inr (.inl f1)))]))) s _ _ := w
    refine pw_goi0 w (va_runV (C := RM) (As := []) (rest := []) S (pm_c_thrown l D m0 ad cI k tm nf me nb sc gl nu si wh pl sm ms mg mn mk md _ ) (pw_cw (n := 0) S eL_45 iM_thrown sM_thrown iniM kM_thrown rfl rfl (by decide +kernel) ⟨by decide, by decide⟩) ⟨pw_blind, va_recv w.1 w.2.1 (ci := cM) (q0 := 0) rfl rfl, pw_pre w (w.1.sub [0] rfl)⟩ rfl rfl hl.1 rfl (lv_room (Nat.le_of_ble_eq_true rfl)) dL_law_262 ⟨hc, hs⟩) (fun r3 _ H locs hp3 w => ?_)
    have w : pw_S D (px_T cI cO ++ [(cL, .long)]) (fun q => s.heap.size ≤ q) ((pm_W m0 ad cI k tm nf me nb sc gl nu si wh pl sm ms mg mn mk md ++ (px_W a0 af ab o ar cI cO fd nf sg nb lw aw tm G B ++ [(qo, .inl (cL, 1, .inr (.inl f1)))]))) s _ _ := w
    refine lv_iload hx hb dL_law_265 (lv_at hl 1 rfl) ?_
    refine lv_icmp_eq (tgt := 272) hx hb dL_law_267 (by decide) (fun _ => ?_) (fun h9 => absurd hp3 h9)
    refine lv_iload hx hb dL_law_272 (lv_at hl 1 rfl) ?_
    refine lv_if_ne (tgt := 289) hx hb dL_law_274 (by decide) (fun _ => ?_) (fun h9 => absurd h9 hk0)
    refine lv_goto (tgt := 583) hx hb dL_law_289 (by decide) ?_
    exact kk _ _ _ ⟨fd, nf, sg, nb, lw, aw, tm, G, B, k, me, sc, gl, nu, si, wh, pl, sm, ms, mg, mn, mk, md, f1, htm, hF, hW, hLs, w⟩ (lv_sub hl [2, 3, 4, 5, 6] rfl)
  | some u1 =>
    obtain ⟨sg1, nb1, lw1, aw1, G1, B1⟩ := u1
    obtain ⟨rfl, r, ⟨fr, wh0, x, q1, q2, q3, q4, q5, q6, q7, q8⟩, hf1⟩ := hp
    have w : pw_S D (px_T cI cO ++ [(cL, .long)]) (fun q => s.heap.size ≤ q) (pm_W m0 ad cI cd tm nf me nb sc gl nu si wh pl sm ms mg mn mk md ++ ((px_W a0 af ab o ar cI cO fd 0 sg1 nb1 lw1 aw1 tm G1 B1 ++ [(qo, .inl (cL, 1, .inr (.inl f1)))]) ++ [])) s _ _ := w
    have w : pw_S D (px_T cI cO ++ [(cL, .long)]) (fun q => s.heap.size ≤ q) (pm_W m0 ad cI cd tm nf me nb sc gl nu si wh pl sm ms mg mn mk md ++ (px_W a0 af ab o ar cI cO fd 0 sg1 nb1 lw1 aw1 tm G1 B1 ++ [(qo, .inl (cL, 1, .inr (.inl f1)))])) s _ _ := w.to (by rw [List.append_nil])
    dsimp only at hf1
    refine lv_istore (lv' := [(5, .int 0), (0, .ref b), (1, .ref a0), (2, .ref m0), (3, .ref qo), (4, .int (nI i))]) hx hb dL_law_223 hl (by decide) rfl (fun ls hl => ?_)
    refine lv_aload_n hx hb dL_law_225 rfl (lv_at hl 3 rfl) ?_
    refine lv_aload_n hx hb dL_law_226 rfl (lv_at hl 1 rfl) ?_
    refine lv_iload hx hb dL_law_227 (lv_at hl 5 rfl) ?_
    refine lv_iconst (v := 1) hx hb dL_law_229 (by decide) ?_
    refine lv_iadd hx hb dL_law_230 ?_
    refine pw_top (y := nI (i + 1)) (nI_add i 1) ?_
    refine pw_sld S w hX hbl (j := (i + 1)) (by omega) hL dL_law_231 ?_
    refine lv_aload_n hx hb dL_law_232 rfl (lv_at hl 1 rfl) ?_
    refine lv_iload hx hb dL_law_233 (lv_at hl 5 rfl) ?_
    refine lv_iconst (v := 2) hx hb dL_law_235 (by decide) ?_
    refine lv_iadd hx hb dL_law_236 ?_
    refine pw_top (y := nI (i + 2)) (nI_add i 2) ?_
    refine pw_sld S w hX hbl (j := (i + 2)) (by omega) hL dL_law_237 ?_
    refine lv_aload_n hx hb dL_law_238 rfl (lv_at hl 1 rfl) ?_
    refine lv_iload hx hb dL_law_239 (lv_at hl 5 rfl) ?_
    refine lv_iconst (v := 3) hx hb dL_law_241 (by decide) ?_
    refine lv_iadd hx hb dL_law_242 ?_
    refine pw_top (y := nI (i + 3)) (nI_add i 3) ?_
    refine pw_sld S w hX hbl (j := (i + 3)) (by omega) hL dL_law_243 ?_
    refine lv_aload_n hx hb dL_law_244 rfl (lv_at hl 1 rfl) ?_
    refine lv_iload hx hb dL_law_245 (lv_at hl 5 rfl) ?_
    refine lv_iconst (v := 4) hx hb dL_law_247 (by decide) ?_
    refine lv_iadd hx hb dL_law_248 ?_
    refine pw_top (y := nI (i + 4)) (nI_add i 4) ?_
    refine pw_sld S w hX hbl (j := (i + 4)) (by omega) hL dL_law_249 ?_
    refine lv_aload_n hx hb dL_law_250 rfl (lv_at hl 1 rfl) ?_
    refine lv_iload hx hb dL_law_251 (lv_at hl 5 rfl) ?_
    refine lv_iconst (v := 5) hx hb dL_law_253 (by decide) ?_
    refine lv_iadd hx hb dL_law_254 ?_
    refine pw_top (y := nI (i + 5)) (nI_add i 5) ?_
    refine pw_sld S w hX hbl (j := (i + 5)) (by omega) hL dL_law_255 ?_
    have w : pw_S D (px_T cI cO ++ [(cL, .long)]) (fun q => s.heap.size ≤ q) ([] ++ (pm_W m0 ad cI cd tm nf me nb sc gl nu si wh pl sm ms mg mn mk md ++ (px_W a0 af ab o ar cI cO fd 0 sg1 nb1 lw1 aw1 tm G1 B1 ++ [(qo, .inl (cL, 1, .inr (.inl f1)))]))) s _ _ := w
    refine pw_goi0 w (va_runV (C := RM) (As := [.int (xs (i + 1)), .int (xs (i + 2)), .int (xs (i + 3)), .int (xs (i + 4)), .int (xs (i + 5))]) (rest := []) S (pm_c_piece l D m0 ad cI cd tm nf me nb sc gl nu si wh pl sm ms mg mn mk md _ hF.1 hW.1 (xs (i + 1)) (xs (i + 2)) (xs (i + 3)) (xs (i + 4)) (xs (i + 5))) (pw_cw (n := 5) S eL_52 iM_piece sM_piece iniM kM_piece rfl rfl (by decide +kernel) ⟨by decide, by decide⟩) ⟨pw_blind, va_recv w.1 w.2.1 (ci := cM) (q0 := 0) rfl rfl, pw_pre w (w.1.sub [0] rfl)⟩ rfl rfl hl.1 rfl (lv_room (Nat.le_of_ble_eq_true rfl)) dL_law_256 ⟨hc, hs⟩) (fun r2 u2 H locs hp2 w => ?_)
    have hw9 : (xs (i + 5)).toInt = wh0 := by rw [q2, nI_toInt (by omega)]
    have hf9 : (xs (i + 4)).toInt = fr := by rw [q1, nI_toInt (by omega)]
    have key : ∃ (fr2 w2 : Nat) (x2 : Option Nat), (xs (i + 4)) = nI fr2 ∧ (xs (i + 5)) = nI w2 ∧ 1 ≤ w2 ∧ w2 ≤ 1480 ∧ 0 < nf ∧ fr2 + nf ≤ w2 ∧ pm_fnd sc gl nu nb (xs (i + 1)) (xs (i + 2)) (xs (i + 3)) x2 ∧ u2.1 = 0 ∧ u2.2.1 = 0 ∧ (r2, u2.2.2) = pm_pc me nf fr2 w2 (xs (i + 1)) (xs (i + 2)) (xs (i + 3)) (xs (i + 5)) tm nb sc gl nu si wh pl sm ms mg mn mk md x2 := by
      rcases hp2 with ⟨h3, h4⟩ | ⟨h3, h4, h5⟩ | h3
      · exact absurd (by rw [hw9, hf9]; omega) h4
      · exact absurd (by rw [hw9, hf9]; omega) h5
      · exact h3
    obtain ⟨fr2, w2, x2, g1, g2, g3, g4, g5, g6, g7, g8, g9, g10⟩ := key
    have e1 : fr2 = fr := (nI_eq (by omega) (by omega)).mp (g1.symm.trans q1)
    have e2 : w2 = wh0 := (nI_eq (by omega) (by omega)).mp (g2.symm.trans q2)
    have e3 : x = x2 := pr_fnd hW q7 g7
    subst e1 e2 e3
    obtain ⟨t1, t2⟩ := pr_piece (tm := tm) (a := (xs (i + 1))) (b := (xs (i + 2))) (d3 := (xs (i + 3))) hW hLs hF q7 g7 q2 q3 q4 q6
    rw [← q8, ← g10] at t1 t2
    obtain ⟨cd2, mf2, ct2, sc2, gl2, nu2, si2, wh2, pl2, sm2, ms2, mg2, mn2, mk2, md2⟩ := u2
    obtain ⟨t2, t3, t4⟩ := t2
    dsimp only at g8 g9 t1 t2 t3 t4
    subst g8 g9 t2
    have hans : f1 0 = r2.toInt64 := by rw [hf1, t1]
    refine lv_istore (lv' := [(6, .int r2), (5, .int 0), (0, .ref b), (1, .ref a0), (2, .ref m0), (3, .ref qo), (4, .int (nI i))]) hx hb dL_law_259 hl (by decide) rfl (fun ls hl => ?_)
    refine lv_aload_n hx hb dL_law_261 rfl (lv_at hl 4 rfl) ?_
    have w : pw_S D (px_T cI cO ++ [(cL, .long)]) (fun q => s.heap.size ≤ q) ([] ++ (pm_W m0 ad cI 0 tm 0 me nb1 sc2 gl2 nu2 si2 wh2 pl2 sm2 ms2 mg2 mn2 mk2 md2 ++ (px_W a0 af ab o ar cI cO fd 0 sg1 nb1 lw1 aw1 tm G1 B1 ++ [(qo, .inl (cL, 1, .inr (.inl f1)))]))) s _ _ := w
    refine pw_goi0 w (va_runV (C := RM) (As := []) (rest := []) S (pm_c_thrown l D m0 ad cI 0 tm 0 me nb1 sc2 gl2 nu2 si2 wh2 pl2 sm2 ms2 mg2 mn2 mk2 md2 _ ) (pw_cw (n := 0) S eL_45 iM_thrown sM_thrown iniM kM_thrown rfl rfl (by decide +kernel) ⟨by decide, by decide⟩) ⟨pw_blind, va_recv w.1 w.2.1 (ci := cM) (q0 := 0) rfl rfl, pw_pre w (w.1.sub [0] rfl)⟩ rfl rfl hl.1 rfl (lv_room (Nat.le_of_ble_eq_true rfl)) dL_law_262 ⟨hc, hs⟩) (fun r3 _ H locs hp3 w => ?_)
    have w : pw_S D (px_T cI cO ++ [(cL, .long)]) (fun q => s.heap.size ≤ q) ((pm_W m0 ad cI 0 tm 0 me nb1 sc2 gl2 nu2 si2 wh2 pl2 sm2 ms2 mg2 mn2 mk2 md2 ++ (px_W a0 af ab o ar cI cO fd 0 sg1 nb1 lw1 aw1 tm G1 B1 ++ [(qo, .inl (cL, 1, .inr (.inl f1)))]))) s _ _ := w
    refine lv_iload hx hb dL_law_265 (lv_at hl 1 rfl) ?_
    refine lv_icmp_eq (tgt := 272) hx hb dL_law_267 (by decide) (fun _ => ?_) (fun h9 => absurd hp3 h9)
    refine lv_iload hx hb dL_law_272 (lv_at hl 1 rfl) ?_
    refine lv_if_ne (tgt := 289) hx hb dL_law_274 (by decide) (fun h9 => absurd rfl h9) (fun _ => ?_)
    refine lv_aload_n hx hb dL_law_277 rfl (lv_at hl 5 rfl) ?_
    refine lv_iconst (v := 0) hx hb dL_law_278 (by decide) ?_
    refine pw_lald S w 22 2 (x := qo) (f := f1) (n := 1) (cA := cL) rfl rfl (j := 0) (by decide) (by decide) dL_law_279 ?_
    refine lv_iload hx hb dL_law_280 (lv_at hl 0 rfl) ?_
    refine lv_i2l hx hb dL_law_282 rfl ?_
    refine W.lcmp hx hb dL_law_283 ?_
    refine lv_if_eq (tgt := 289) hx hb dL_law_284 (by decide) (fun _ => ?_) (fun h9 => absurd (by rw [hans]; exact pl_cmp _) h9)
    refine lv_goto (tgt := 583) hx hb dL_law_289 (by decide) ?_
    exact kk _ _ _ ⟨fd, 0, sg1, nb1, lw1, aw1, tm, G1, B1, 0, me, sc2, gl2, nu2, si2, wh2, pl2, sm2, ms2, mg2, mn2, mk2, md2, f1, htm, ⟨Nat.zero_le _, fun i9 hi9 => absurd hi9 (Nat.not_lt_zero i9)⟩, t3, t4, w⟩ (lv_sub hl [2, 3, 4, 5, 6] rfl)
