set_option maxHeartbeats 4000000 in
set_option maxRecDepth 100000 in
/-- the law's feed -/
theorem pl_c_feed (l : Launch) (D : va_G) (a0 af ab : Nat) (o ar : Nat → Nat) (cI cO : ClassId) (fd : Nat → Int32) (nf : Nat) (sg : Nat → Nat) (nb : Nat) (lw : Nat) (aw : Int32) (tm : Nat) (G : Nat → px_G) (B : Nat → Nat → Int32) (sz : Nat) (qo : Nat) (cL : ClassId) (f : Nat → Int64) (hl9 : l.stackTraces = false) (hnf : nf ≤ 1480) (x : Int64) (n : Int32) : pw_MW l yL_feed cL_feed 6 .int [(0, 11, 14, 13), (0, 11, 18, 15)] ({ frames := 7, cells := 1, slots := 6, locals := 200 }) D (px_T cI cO ++ [(cL, .long)]) [.ref a0, .long x, .int n, .ref qo] (px_W a0 af ab o ar cI cO fd nf sg nb lw aw tm G B ++ [(qo, .inl (cL, 1, .inr (.inl f)))]) sz (σ := Option (Nat × (Nat → Int32)) × (Nat → Int64)) (fun k y9 => match y9.1 with | none => (k = 1 ∧ ¬ (1 ≤ n.toInt ∧ n.toInt ≤ 8)) ∨ (k = 2 ∧ (1 ≤ n.toInt ∧ n.toInt ≤ 8) ∧ 1480 < (nf : Int) + n.toInt) | some u => k = 0 ∧ ∃ r, (fun r u => 1 ≤ u.1 ∧ u.1 ≤ 8 ∧ n = nI u.1 ∧ nf + u.1 ≤ 1480 ∧ u.2 = px_fd fd nf x n u.1 ∧ r = nI (nf + u.1)) r u ∧ y9.2 0 = r.toInt64) (fun y9 => (match y9.1 with | none => px_W a0 af ab o ar cI cO fd nf sg nb lw aw tm G B | some u => px_W a0 af ab o ar cI cO u.2 (nf + u.1) sg nb lw aw tm G B) ++ [(qo, .inl (cL, 1, .inr (.inl y9.2)))]) 1 6 := by
  refine pw_openW (by decide) (Nat.le_of_ble_eq_true rfl) ?_
  intro p e s m below meth c ls S hr hlk hTab hl hsz w
  obtain ⟨hx, hb, hml, hown, hts⟩ := id S
  have hl : lv_has ls 6 [(0, .ref a0), (1, .long x), (3, .int n), (4, .ref qo)] := hl
  generalize va_A (px_W a0 af ab o ar cI cO fd nf sg nb lw aw tm G B ++ [(qo, .inl (cL, 1, .inr (.inl f)))]) sz = A at w ⊢
  refine lv_aload hx hb dL_feed_0 (lv_at hl 3 rfl) ?_
  refine lv_iconst (v := 0) hx hb dL_feed_2 (by decide) ?_
  refine lv_aload_n hx hb dL_feed_3 rfl (lv_at hl 0 rfl) ?_
  refine lv_lload_n hx hb dL_feed_4 rfl (lv_at hl 1 rfl) ?_
  refine lv_iload_n hx hb dL_feed_5 rfl (lv_at hl 2 rfl) ?_
  have w : pw_S D (px_T cI cO ++ [(cL, .long)]) A ([] ++ (px_W a0 af ab o ar cI cO fd nf sg nb lw aw tm G B ++ [(qo, .inl (cL, 1, .inr (.inl f)))])) s s.heap [] := w
  refine pw_gox w (vx_runV (C := RP) (As := [.long x, .int n]) (rest := [.int 0, .ref qo]) S (px_c_feed l D a0 af ab o ar cI cO fd nf sg nb lw aw tm G B s.heap.size hl9 hnf x n) (pw_cw (n := 2) S eL_7 iP_feed sP_feed iniP kP_feed rfl rfl (by decide +kernel) ⟨by decide, by decide⟩) ⟨pw_blind, va_recv w.1 w.2.1 (ci := cP) (q0 := 0) rfl rfl, pw_pre w (w.1.sub [0, 1] rfl)⟩ rfl rfl hl.1 rfl (lv_room (Nat.le_of_ble_eq_true rfl)) dL_feed_6 ⟨by decide, by decide⟩) (fun E ce q9 H locs hX w hce hcv hcl => ?_) (fun r u H locs hp w => ?_)
  · rcases hX with ⟨rfl, hX⟩ | ⟨rfl, hX⟩
    · refine vx_catch (own := RL) (name := exIA) (E := exIA) hown [] ⟨0, 11, 14, 13⟩ [⟨0, 11, 18, 15⟩] (by rw [hTab]; rfl) (fun z hz => nomatch hz) (by decide) (by decide) (hts _ cl_exIA) (va_Nw.use rfl (w.2.2.2.2.2.nC ct_exIA)) hce hcv hcl ?_
      refine lv_astore (lv' := [(5, .ref q9), (0, .ref a0), (1, .long x), (3, .int n), (4, .ref qo)]) hx hb dL_feed_14 hl (by decide) rfl (fun ls hl => ?_)
      refine lv_iconst (v := 1) hx hb dL_feed_16 (by decide) ?_
      exact pw_reti S hr hlk (none, f) w (Or.inl ⟨rfl, hX⟩) (by decide) (by decide) dL_feed_17
    · refine vx_catch (own := RL) (name := exIS) (E := exIS) hown [⟨0, 11, 14, 13⟩] ⟨0, 11, 18, 15⟩ [] (by rw [hTab]; rfl) (fun z hz => by rw [List.mem_singleton.mp hz]; exact Or.inr ⟨by decide, exIA, hts _ cl_exIA, w.2.2.2.2.2.nN nc_exIS_exIA⟩) (by decide) (by decide) (hts _ cl_exIS) (va_Nw.use rfl (w.2.2.2.2.2.nC ct_exIS)) hce hcv hcl ?_
      refine lv_astore (lv' := [(5, .ref q9), (0, .ref a0), (1, .long x), (3, .int n), (4, .ref qo)]) hx hb dL_feed_18 hl (by decide) rfl (fun ls hl => ?_)
      refine lv_iconst (v := 2) hx hb dL_feed_20 (by decide) ?_
      exact pw_reti S hr hlk (none, f) w (Or.inr ⟨rfl, hX⟩) (by decide) (by decide) dL_feed_21
  · refine lv_i2l hx hb dL_feed_9 rfl ?_
    refine pw_last S w 13 2 (x := qo) (f := f) (n := 1) (cA := cL) rfl rfl (j := 0) (by decide) (by decide) dL_feed_10 (fun H locs w => ?_)
    refine lv_goto (tgt := 22) hx hb dL_feed_11 (by decide) ?_
    refine lv_iconst (v := 0) hx hb dL_feed_22 (by decide) ?_
    exact pw_reti S hr hlk (some u, vp_updL f 0 r.toInt64) w ⟨rfl, r, hp, rfl⟩ (by decide) (by decide) dL_feed_23

set_option maxHeartbeats 4000000 in
set_option maxRecDepth 100000 in
/-- the law's piece -/
theorem pl_c_piece (l : Launch) (D : va_G) (a0 af ab : Nat) (o ar : Nat → Nat) (cI cO : ClassId) (fd : Nat → Int32) (nf : Nat) (sg : Nat → Nat) (nb : Nat) (lw : Nat) (aw : Int32) (tm : Nat) (G : Nat → px_G) (B : Nat → Nat → Int32) (sz : Nat) (qo : Nat) (cL : ClassId) (f : Nat → Int64) (hl9 : l.stackTraces = false) (hnf : nf ≤ 1480) (hnb : nb ≤ 4) (hsg : ∀ q, q < 4 → sg q < 5) (hlw : lw < 5) (a b d3 fm wl : Int32) : pw_MW l yL_piece cL_piece 8 .int [(0, 16, 19, 13), (0, 16, 23, 15)] ({ frames := 7, cells := 1, slots := 6, locals := 200 }) D (px_T cI cO ++ [(cL, .long)]) [.ref a0, .int a, .int b, .int d3, .int fm, .int wl, .ref qo] (px_W a0 af ab o ar cI cO fd nf sg nb lw aw tm G B ++ [(qo, .inl (cL, 1, .inr (.inl f)))]) sz (σ := Option (px_R) × (Nat → Int64)) (fun k y9 => match y9.1 with | none => (k = 1 ∧ ¬ (1 ≤ wl.toInt ∧ wl.toInt ≤ 1480 ∧ 0 ≤ fm.toInt)) ∨ (k = 2 ∧ (1 ≤ wl.toInt ∧ wl.toInt ≤ 1480 ∧ 0 ≤ fm.toInt) ∧ ¬ (0 < nf ∧ fm.toInt + nf ≤ wl.toInt)) | some u => k = 0 ∧ ∃ r, (fun r u => ∃ (fr wh : Nat) (x : Option Nat), fm = nI fr ∧ wl = nI wh ∧ 1 ≤ wh ∧ wh ≤ 1480 ∧ 0 < nf ∧ fr + nf ≤ wh ∧ px_fnd sg G nb a b d3 x ∧ (r, u) = px_pc fd nf fr a b d3 wl sg nb lw aw tm G B x) r u ∧ y9.2 0 = r.toInt64) (fun y9 => (match y9.1 with | none => px_W a0 af ab o ar cI cO fd nf sg nb lw aw tm G B | some u => px_W a0 af ab o ar cI cO fd 0 u.1 u.2.1 u.2.2.1 u.2.2.2.1 tm u.2.2.2.2.1 u.2.2.2.2.2) ++ [(qo, .inl (cL, 1, .inr (.inl y9.2)))]) 1 6 := by
  refine pw_openW (by decide) (Nat.le_of_ble_eq_true rfl) ?_
  intro p e s m below meth c ls S hr hlk hTab hl hsz w
  obtain ⟨hx, hb, hml, hown, hts⟩ := id S
  have hl : lv_has ls 8 [(0, .ref a0), (1, .int a), (2, .int b), (3, .int d3), (4, .int fm), (5, .int wl), (6, .ref qo)] := hl
  generalize va_A (px_W a0 af ab o ar cI cO fd nf sg nb lw aw tm G B ++ [(qo, .inl (cL, 1, .inr (.inl f)))]) sz = A at w ⊢
  refine lv_aload hx hb dL_piece_0 (lv_at hl 6 rfl) ?_
  refine lv_iconst (v := 0) hx hb dL_piece_2 (by decide) ?_
  refine lv_aload_n hx hb dL_piece_3 rfl (lv_at hl 0 rfl) ?_
  refine lv_iload_n hx hb dL_piece_4 rfl (lv_at hl 1 rfl) ?_
  refine lv_iload_n hx hb dL_piece_5 rfl (lv_at hl 2 rfl) ?_
  refine lv_iload_n hx hb dL_piece_6 rfl (lv_at hl 3 rfl) ?_
  refine lv_iload hx hb dL_piece_7 (lv_at hl 4 rfl) ?_
  refine lv_iload hx hb dL_piece_9 (lv_at hl 5 rfl) ?_
  have w : pw_S D (px_T cI cO ++ [(cL, .long)]) A ([] ++ (px_W a0 af ab o ar cI cO fd nf sg nb lw aw tm G B ++ [(qo, .inl (cL, 1, .inr (.inl f)))])) s s.heap [] := w
  refine pw_gox w (vx_runV (C := RP) (As := [.int a, .int b, .int d3, .int fm, .int wl]) (rest := [.int 0, .ref qo]) S (px_c_piece l D a0 af ab o ar cI cO fd nf sg nb lw aw tm G B s.heap.size hl9 hnf hnb hsg hlw a b d3 fm wl) (pw_cw (n := 5) S eL_17 iP_piece sP_piece iniP kP_piece rfl rfl (by decide +kernel) ⟨by decide, by decide⟩) ⟨pw_blind, va_recv w.1 w.2.1 (ci := cP) (q0 := 0) rfl rfl, pw_pre w (w.1.sub [0, 1] rfl)⟩ rfl rfl hl.1 rfl (lv_room (Nat.le_of_ble_eq_true rfl)) dL_piece_11 ⟨by decide, by decide⟩) (fun E ce q9 H locs hX w hce hcv hcl => ?_) (fun r u H locs hp w => ?_)
  · rcases hX with ⟨rfl, hX⟩ | ⟨rfl, hX⟩
    · refine vx_catch (own := RL) (name := exIA) (E := exIA) hown [] ⟨0, 16, 19, 13⟩ [⟨0, 16, 23, 15⟩] (by rw [hTab]; rfl) (fun z hz => nomatch hz) (by decide) (by decide) (hts _ cl_exIA) (va_Nw.use rfl (w.2.2.2.2.2.nC ct_exIA)) hce hcv hcl ?_
      refine lv_astore (lv' := [(7, .ref q9), (0, .ref a0), (1, .int a), (2, .int b), (3, .int d3), (4, .int fm), (5, .int wl), (6, .ref qo)]) hx hb dL_piece_19 hl (by decide) rfl (fun ls hl => ?_)
      refine lv_iconst (v := 1) hx hb dL_piece_21 (by decide) ?_
      exact pw_reti S hr hlk (none, f) w (Or.inl ⟨rfl, hX⟩) (by decide) (by decide) dL_piece_22
    · refine vx_catch (own := RL) (name := exIS) (E := exIS) hown [⟨0, 16, 19, 13⟩] ⟨0, 16, 23, 15⟩ [] (by rw [hTab]; rfl) (fun z hz => by rw [List.mem_singleton.mp hz]; exact Or.inr ⟨by decide, exIA, hts _ cl_exIA, w.2.2.2.2.2.nN nc_exIS_exIA⟩) (by decide) (by decide) (hts _ cl_exIS) (va_Nw.use rfl (w.2.2.2.2.2.nC ct_exIS)) hce hcv hcl ?_
      refine lv_astore (lv' := [(7, .ref q9), (0, .ref a0), (1, .int a), (2, .int b), (3, .int d3), (4, .int fm), (5, .int wl), (6, .ref qo)]) hx hb dL_piece_23 hl (by decide) rfl (fun ls hl => ?_)
      refine lv_iconst (v := 2) hx hb dL_piece_25 (by decide) ?_
      exact pw_reti S hr hlk (none, f) w (Or.inr ⟨rfl, hX⟩) (by decide) (by decide) dL_piece_26
  · refine lv_i2l hx hb dL_piece_14 rfl ?_
    refine pw_last S w 13 2 (x := qo) (f := f) (n := 1) (cA := cL) rfl rfl (j := 0) (by decide) (by decide) dL_piece_15 (fun H locs w => ?_)
    refine lv_goto (tgt := 27) hx hb dL_piece_16 (by decide) ?_
    refine lv_iconst (v := 0) hx hb dL_piece_27 (by decide) ?_
    exact pw_reti S hr hlk (some u, vp_updL f 0 r.toInt64) w ⟨rfl, r, hp, rfl⟩ (by decide) (by decide) dL_piece_28

set_option maxHeartbeats 4000000 in
set_option maxRecDepth 100000 in
/-- the law's pass -/
theorem pl_c_pass (l : Launch) (D : va_G) (a0 af ab : Nat) (o ar : Nat → Nat) (cI cO : ClassId) (fd : Nat → Int32) (nf : Nat) (sg : Nat → Nat) (nb : Nat) (lw : Nat) (aw : Int32) (tm : Nat) (G : Nat → px_G) (B : Nat → Nat → Int32) (sz : Nat) (qo : Nat) (cL : ClassId) (f : Nat → Int64) (hl9 : l.stackTraces = false) (htm : tm ≤ 1000000000) (hnb : nb ≤ 4) (hsg : ∀ q, q < 4 → sg q < 5) (n : Int32) : pw_MW l yL_pass cL_pass 4 .int [(0, 9, 12, 13), (0, 9, 15, 15)] ({ frames := 7, cells := 1, slots := 6, locals := 200 }) D (px_T cI cO ++ [(cL, .long)]) [.ref a0, .int n, .ref qo] (px_W a0 af ab o ar cI cO fd nf sg nb lw aw tm G B ++ [(qo, .inl (cL, 1, .inr (.inl f)))]) sz (σ := Option (Nat) × (Nat → Int64)) (fun k y9 => match y9.1 with | none => (k = 1 ∧ ¬ (0 ≤ n.toInt ∧ n.toInt ≤ 1000000)) ∨ (k = 2 ∧ (0 ≤ n.toInt ∧ n.toInt ≤ 1000000) ∧ 1000000000 < (tm : Int) + n.toInt) | some u => k = 0 ∧ ∃ r, (fun r u => u ≤ 1000000 ∧ n = nI u ∧ tm + u ≤ 1000000000 ∧ r = nI (nb - (px_gv (tm + u) G 4 sg nb).2)) r u ∧ y9.2 0 = r.toInt64) (fun y9 => (match y9.1 with | none => px_W a0 af ab o ar cI cO fd nf sg nb lw aw tm G B | some u => px_W a0 af ab o ar cI cO fd nf ((px_gv (tm + u) G 4 sg nb).1) ((px_gv (tm + u) G 4 sg nb).2) lw aw (tm + u) G B) ++ [(qo, .inl (cL, 1, .inr (.inl y9.2)))]) 1 6 := by
  refine pw_openW (by decide) (Nat.le_of_ble_eq_true rfl) ?_
  intro p e s m below meth c ls S hr hlk hTab hl hsz w
  obtain ⟨hx, hb, hml, hown, hts⟩ := id S
  have hl : lv_has ls 4 [(0, .ref a0), (1, .int n), (2, .ref qo)] := hl
  generalize va_A (px_W a0 af ab o ar cI cO fd nf sg nb lw aw tm G B ++ [(qo, .inl (cL, 1, .inr (.inl f)))]) sz = A at w ⊢
  refine lv_aload_n hx hb dL_pass_0 rfl (lv_at hl 2 rfl) ?_
  refine lv_iconst (v := 0) hx hb dL_pass_1 (by decide) ?_
  refine lv_aload_n hx hb dL_pass_2 rfl (lv_at hl 0 rfl) ?_
  refine lv_iload_n hx hb dL_pass_3 rfl (lv_at hl 1 rfl) ?_
  have w : pw_S D (px_T cI cO ++ [(cL, .long)]) A ([] ++ (px_W a0 af ab o ar cI cO fd nf sg nb lw aw tm G B ++ [(qo, .inl (cL, 1, .inr (.inl f)))])) s s.heap [] := w
  refine pw_gox w (vx_runV (C := RP) (As := [.int n]) (rest := [.int 0, .ref qo]) S (px_c_pass l D a0 af ab o ar cI cO fd nf sg nb lw aw tm G B s.heap.size hl9 htm hnb hsg n) (pw_cw (n := 1) S eL_21 iP_pass sP_pass iniP kP_pass rfl rfl (by decide +kernel) ⟨by decide, by decide⟩) ⟨pw_blind, va_recv w.1 w.2.1 (ci := cP) (q0 := 0) rfl rfl, pw_pre w (w.1.sub [0, 1] rfl)⟩ rfl rfl hl.1 rfl (lv_room (Nat.le_of_ble_eq_true rfl)) dL_pass_4 ⟨by decide, by decide⟩) (fun E ce q9 H locs hX w hce hcv hcl => ?_) (fun r u H locs hp w => ?_)
  · rcases hX with ⟨rfl, hX⟩ | ⟨rfl, hX⟩
    · refine vx_catch (own := RL) (name := exIA) (E := exIA) hown [] ⟨0, 9, 12, 13⟩ [⟨0, 9, 15, 15⟩] (by rw [hTab]; rfl) (fun z hz => nomatch hz) (by decide) (by decide) (hts _ cl_exIA) (va_Nw.use rfl (w.2.2.2.2.2.nC ct_exIA)) hce hcv hcl ?_
      refine lv_astore_n (lv' := [(3, .ref q9), (0, .ref a0), (1, .int n), (2, .ref qo)]) hx hb dL_pass_12 rfl hl (by decide) rfl (fun ls hl => ?_)
      refine lv_iconst (v := 1) hx hb dL_pass_13 (by decide) ?_
      exact pw_reti S hr hlk (none, f) w (Or.inl ⟨rfl, hX⟩) (by decide) (by decide) dL_pass_14
    · refine vx_catch (own := RL) (name := exIS) (E := exIS) hown [⟨0, 9, 12, 13⟩] ⟨0, 9, 15, 15⟩ [] (by rw [hTab]; rfl) (fun z hz => by rw [List.mem_singleton.mp hz]; exact Or.inr ⟨by decide, exIA, hts _ cl_exIA, w.2.2.2.2.2.nN nc_exIS_exIA⟩) (by decide) (by decide) (hts _ cl_exIS) (va_Nw.use rfl (w.2.2.2.2.2.nC ct_exIS)) hce hcv hcl ?_
      refine lv_astore_n (lv' := [(3, .ref q9), (0, .ref a0), (1, .int n), (2, .ref qo)]) hx hb dL_pass_15 rfl hl (by decide) rfl (fun ls hl => ?_)
      refine lv_iconst (v := 2) hx hb dL_pass_16 (by decide) ?_
      exact pw_reti S hr hlk (none, f) w (Or.inr ⟨rfl, hX⟩) (by decide) (by decide) dL_pass_17
  · refine lv_i2l hx hb dL_pass_7 rfl ?_
    refine pw_last S w 13 2 (x := qo) (f := f) (n := 1) (cA := cL) rfl rfl (j := 0) (by decide) (by decide) dL_pass_8 (fun H locs w => ?_)
    refine lv_goto (tgt := 18) hx hb dL_pass_9 (by decide) ?_
    refine lv_iconst (v := 0) hx hb dL_pass_18 (by decide) ?_
    exact pw_reti S hr hlk (some u, vp_updL f 0 r.toInt64) w ⟨rfl, r, hp, rfl⟩ (by decide) (by decide) dL_pass_19

set_option maxHeartbeats 4000000 in
set_option maxRecDepth 100000 in
/-- the law's about -/
theorem pl_c_about (l : Launch) (D : va_G) (a0 af ab : Nat) (o ar : Nat → Nat) (cI cO : ClassId) (fd : Nat → Int32) (nf : Nat) (sg : Nat → Nat) (nb : Nat) (lw : Nat) (aw : Int32) (tm : Nat) (G : Nat → px_G) (B : Nat → Nat → Int32) (sz : Nat) (qo : Nat) (cL : ClassId) (f : Nat → Int64) (hl9 : l.stackTraces = false) (hlw : lw < 5) (n : Int32) : pw_MW l yL_about cL_about 4 .int [(0, 9, 12, 13), (0, 9, 15, 15)] ({ frames := 7, cells := 1, slots := 6, locals := 200 }) D (px_T cI cO ++ [(cL, .long)]) [.ref a0, .int n, .ref qo] (px_W a0 af ab o ar cI cO fd nf sg nb lw aw tm G B ++ [(qo, .inl (cL, 1, .inr (.inl f)))]) sz (σ := Option (Unit) × (Nat → Int64)) (fun k y9 => match y9.1 with | none => (k = 1 ∧ ¬ (0 ≤ n.toInt ∧ n.toInt ≤ 3)) ∨ (k = 2 ∧ (0 ≤ n.toInt ∧ n.toInt ≤ 3) ∧ aw = 0) | some u => k = 0 ∧ ∃ r, (fun r _ => (0 ≤ n.toInt ∧ n.toInt ≤ 3) ∧ ¬ aw = 0 ∧ r = px_ab (G lw) n) r u ∧ y9.2 0 = r.toInt64) (fun y9 => (match y9.1 with | none => px_W a0 af ab o ar cI cO fd nf sg nb lw aw tm G B | some _ => px_W a0 af ab o ar cI cO fd nf sg nb lw aw tm G B) ++ [(qo, .inl (cL, 1, .inr (.inl y9.2)))]) 1 6 := by
  refine pw_openW (by decide) (Nat.le_of_ble_eq_true rfl) ?_
  intro p e s m below meth c ls S hr hlk hTab hl hsz w
  obtain ⟨hx, hb, hml, hown, hts⟩ := id S
  have hl : lv_has ls 4 [(0, .ref a0), (1, .int n), (2, .ref qo)] := hl
  generalize va_A (px_W a0 af ab o ar cI cO fd nf sg nb lw aw tm G B ++ [(qo, .inl (cL, 1, .inr (.inl f)))]) sz = A at w ⊢
  refine lv_aload_n hx hb dL_about_0 rfl (lv_at hl 2 rfl) ?_
  refine lv_iconst (v := 0) hx hb dL_about_1 (by decide) ?_
  refine lv_aload_n hx hb dL_about_2 rfl (lv_at hl 0 rfl) ?_
  refine lv_iload_n hx hb dL_about_3 rfl (lv_at hl 1 rfl) ?_
  have w : pw_S D (px_T cI cO ++ [(cL, .long)]) A ([] ++ (px_W a0 af ab o ar cI cO fd nf sg nb lw aw tm G B ++ [(qo, .inl (cL, 1, .inr (.inl f)))])) s s.heap [] := w
  refine pw_gox w (vx_runV (C := RP) (As := [.int n]) (rest := [.int 0, .ref qo]) S (px_c_about l D a0 af ab o ar cI cO fd nf sg nb lw aw tm G B s.heap.size hl9 hlw n) (pw_cw (n := 1) S eL_25 iP_about sP_about iniP kP_about rfl rfl (by decide +kernel) ⟨by decide, by decide⟩) ⟨pw_blind, va_recv w.1 w.2.1 (ci := cP) (q0 := 0) rfl rfl, pw_pre w (w.1.sub [0, 1] rfl)⟩ rfl rfl hl.1 rfl (lv_room (Nat.le_of_ble_eq_true rfl)) dL_about_4 ⟨by decide, by decide⟩) (fun E ce q9 H locs hX w hce hcv hcl => ?_) (fun r u H locs hp w => ?_)
  · rcases hX with ⟨rfl, hX⟩ | ⟨rfl, hX⟩
    · refine vx_catch (own := RL) (name := exIA) (E := exIA) hown [] ⟨0, 9, 12, 13⟩ [⟨0, 9, 15, 15⟩] (by rw [hTab]; rfl) (fun z hz => nomatch hz) (by decide) (by decide) (hts _ cl_exIA) (va_Nw.use rfl (w.2.2.2.2.2.nC ct_exIA)) hce hcv hcl ?_
      refine lv_astore_n (lv' := [(3, .ref q9), (0, .ref a0), (1, .int n), (2, .ref qo)]) hx hb dL_about_12 rfl hl (by decide) rfl (fun ls hl => ?_)
      refine lv_iconst (v := 1) hx hb dL_about_13 (by decide) ?_
      exact pw_reti S hr hlk (none, f) w (Or.inl ⟨rfl, hX⟩) (by decide) (by decide) dL_about_14
    · refine vx_catch (own := RL) (name := exIS) (E := exIS) hown [⟨0, 9, 12, 13⟩] ⟨0, 9, 15, 15⟩ [] (by rw [hTab]; rfl) (fun z hz => by rw [List.mem_singleton.mp hz]; exact Or.inr ⟨by decide, exIA, hts _ cl_exIA, w.2.2.2.2.2.nN nc_exIS_exIA⟩) (by decide) (by decide) (hts _ cl_exIS) (va_Nw.use rfl (w.2.2.2.2.2.nC ct_exIS)) hce hcv hcl ?_
      refine lv_astore_n (lv' := [(3, .ref q9), (0, .ref a0), (1, .int n), (2, .ref qo)]) hx hb dL_about_15 rfl hl (by decide) rfl (fun ls hl => ?_)
      refine lv_iconst (v := 2) hx hb dL_about_16 (by decide) ?_
      exact pw_reti S hr hlk (none, f) w (Or.inr ⟨rfl, hX⟩) (by decide) (by decide) dL_about_17
  · refine lv_i2l hx hb dL_about_7 rfl ?_
    refine pw_last S w 13 2 (x := qo) (f := f) (n := 1) (cA := cL) rfl rfl (j := 0) (by decide) (by decide) dL_about_8 (fun H locs w => ?_)
    refine lv_goto (tgt := 18) hx hb dL_about_9 (by decide) ?_
    refine lv_iconst (v := 0) hx hb dL_about_18 (by decide) ?_
    exact pw_reti S hr hlk (some u, vp_updL f 0 r.toInt64) w ⟨rfl, r, hp, rfl⟩ (by decide) (by decide) dL_about_19

set_option maxHeartbeats 4000000 in
set_option maxRecDepth 100000 in
/-- the law's byteAt -/
theorem pl_c_byteAt (l : Launch) (D : va_G) (a0 af ab : Nat) (o ar : Nat → Nat) (cI cO : ClassId) (fd : Nat → Int32) (nf : Nat) (sg : Nat → Nat) (nb : Nat) (lw : Nat) (aw : Int32) (tm : Nat) (G : Nat → px_G) (B : Nat → Nat → Int32) (sz : Nat) (qo : Nat) (cL : ClassId) (f : Nat → Int64) (hl9 : l.stackTraces = false) (hlw : lw < 5) (zs : Nat) (hzs : ¬ aw = 0 → (G lw).2.2.2.1 = nI zs ∧ zs ≤ 1480) (i : Int32) : pw_MW l yL_byteAt cL_byteAt 4 .int [(0, 9, 12, 15), (0, 9, 15, 31)] ({ frames := 7, cells := 1, slots := 6, locals := 200 }) D (px_T cI cO ++ [(cL, .long)]) [.ref a0, .int i, .ref qo] (px_W a0 af ab o ar cI cO fd nf sg nb lw aw tm G B ++ [(qo, .inl (cL, 1, .inr (.inl f)))]) sz (σ := Option (Unit) × (Nat → Int64)) (fun k y9 => match y9.1 with | none => (k = 1 ∧ aw = 0) ∨ (k = 2 ∧ ¬ aw = 0 ∧ ¬ (0 ≤ i.toInt ∧ i.toInt < zs)) | some u => k = 0 ∧ ∃ r, (fun r _ => ¬ aw = 0 ∧ ∃ i9, i9 < zs ∧ i = nI i9 ∧ r = B lw i9) r u ∧ y9.2 0 = r.toInt64) (fun y9 => (match y9.1 with | none => px_W a0 af ab o ar cI cO fd nf sg nb lw aw tm G B | some _ => px_W a0 af ab o ar cI cO fd nf sg nb lw aw tm G B) ++ [(qo, .inl (cL, 1, .inr (.inl y9.2)))]) 1 6 := by
  refine pw_openW (by decide) (Nat.le_of_ble_eq_true rfl) ?_
  intro p e s m below meth c ls S hr hlk hTab hl hsz w
  obtain ⟨hx, hb, hml, hown, hts⟩ := id S
  have hl : lv_has ls 4 [(0, .ref a0), (1, .int i), (2, .ref qo)] := hl
  generalize va_A (px_W a0 af ab o ar cI cO fd nf sg nb lw aw tm G B ++ [(qo, .inl (cL, 1, .inr (.inl f)))]) sz = A at w ⊢
  refine lv_aload_n hx hb dL_byteAt_0 rfl (lv_at hl 2 rfl) ?_
  refine lv_iconst (v := 0) hx hb dL_byteAt_1 (by decide) ?_
  refine lv_aload_n hx hb dL_byteAt_2 rfl (lv_at hl 0 rfl) ?_
  refine lv_iload_n hx hb dL_byteAt_3 rfl (lv_at hl 1 rfl) ?_
  have w : pw_S D (px_T cI cO ++ [(cL, .long)]) A ([] ++ (px_W a0 af ab o ar cI cO fd nf sg nb lw aw tm G B ++ [(qo, .inl (cL, 1, .inr (.inl f)))])) s s.heap [] := w
  refine pw_gox w (vx_runV (C := RP) (As := [.int i]) (rest := [.int 0, .ref qo]) S (px_c_byteAt l D a0 af ab o ar cI cO fd nf sg nb lw aw tm G B s.heap.size hl9 hlw zs hzs i) (pw_cw (n := 1) S eL_28 iP_byteAt sP_byteAt iniP kP_byteAt rfl rfl (by decide +kernel) ⟨by decide, by decide⟩) ⟨pw_blind, va_recv w.1 w.2.1 (ci := cP) (q0 := 0) rfl rfl, pw_pre w (w.1.sub [0, 1] rfl)⟩ rfl rfl hl.1 rfl (lv_room (Nat.le_of_ble_eq_true rfl)) dL_byteAt_4 ⟨by decide, by decide⟩) (fun E ce q9 H locs hX w hce hcv hcl => ?_) (fun r u H locs hp w => ?_)
  · rcases hX with ⟨rfl, hX⟩ | ⟨rfl, hX⟩
    · refine vx_catch (own := RL) (name := exIS) (E := exIS) hown [] ⟨0, 9, 12, 15⟩ [⟨0, 9, 15, 31⟩] (by rw [hTab]; rfl) (fun z hz => nomatch hz) (by decide) (by decide) (hts _ cl_exIS) (va_Nw.use rfl (w.2.2.2.2.2.nC ct_exIS)) hce hcv hcl ?_
      refine lv_astore_n (lv' := [(3, .ref q9), (0, .ref a0), (1, .int i), (2, .ref qo)]) hx hb dL_byteAt_12 rfl hl (by decide) rfl (fun ls hl => ?_)
      refine lv_iconst (v := 1) hx hb dL_byteAt_13 (by decide) ?_
      exact pw_reti S hr hlk (none, f) w (Or.inl ⟨rfl, hX⟩) (by decide) (by decide) dL_byteAt_14
    · refine vx_catch (own := RL) (name := exIB) (E := exIB) hown [⟨0, 9, 12, 15⟩] ⟨0, 9, 15, 31⟩ [] (by rw [hTab]; rfl) (fun z hz => by rw [List.mem_singleton.mp hz]; exact Or.inr ⟨by decide, exIS, hts _ cl_exIS, w.2.2.2.2.2.nN nc_exIB_exIS⟩) (by decide) (by decide) (hts _ cl_exIB) (va_Nw.use rfl (w.2.2.2.2.2.nC ct_exIB)) hce hcv hcl ?_
      refine lv_astore_n (lv' := [(3, .ref q9), (0, .ref a0), (1, .int i), (2, .ref qo)]) hx hb dL_byteAt_15 rfl hl (by decide) rfl (fun ls hl => ?_)
      refine lv_iconst (v := 2) hx hb dL_byteAt_16 (by decide) ?_
      exact pw_reti S hr hlk (none, f) w (Or.inr ⟨rfl, hX⟩) (by decide) (by decide) dL_byteAt_17
  · refine lv_i2l hx hb dL_byteAt_7 rfl ?_
    refine pw_last S w 13 2 (x := qo) (f := f) (n := 1) (cA := cL) rfl rfl (j := 0) (by decide) (by decide) dL_byteAt_8 (fun H locs w => ?_)
    refine lv_goto (tgt := 18) hx hb dL_byteAt_9 (by decide) ?_
    refine lv_iconst (v := 0) hx hb dL_byteAt_18 (by decide) ?_
    exact pw_reti S hr hlk (some u, vp_updL f 0 r.toInt64) w ⟨rfl, r, hp, rfl⟩ (by decide) (by decide) dL_byteAt_19
