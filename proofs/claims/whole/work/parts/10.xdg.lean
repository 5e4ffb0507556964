set_option maxHeartbeats 4000000 in
set_option maxRecDepth 100000 in
/-- Datagram() -/
theorem px_c_dinit (l : Launch) (D : va_G) (q sz : Nat) : pw_Mv l yX0_init cX0_init 1 ({ frames := 1, cells := 1, slots := 1480, locals := 60 }) D [] [.ref q] [(q, .inr (cD, [.null, .int 0, .int 0, .int 0, .int 0, .int 0, .int 0]))] sz (σ := Nat × ClassId) (fun _ => True) (fun u => [(q, .inr (cD, px_fs u.1 (0, 0, 0, 0, 0, 0))), (u.1, .inl (u.2, 1480, .inl (fun _ => 0)))]) (fun u => [(u.2, .int)]) 1 1480 := by
  refine pw_openV (by decide) (Nat.le_of_ble_eq_true rfl) ?_
  intro p e s m below meth c ls S hr hlk hnm hl hsz w
  obtain ⟨hx, hb, hml, hown, hts⟩ := id S
  have hl : lv_has ls 1 [(0, .ref q)] := hl
  generalize va_A [(q, .inr (cD, [.null, .int 0, .int 0, .int 0, .int 0, .int 0, .int 0]))] sz = A at w ⊢
  refine lv_aload_n hx hb dX0_init_0 rfl (lv_at hl 0 rfl) ?_
  refine pw_oinit S eD_3 iO kO hl.1 (by decide) (by decide) dX0_init_1 ?_
  refine lv_aload_n hx hb dX0_init_4 rfl (lv_at hl 0 rfl) ?_
  refine lv_sipush (v := 1480) hx hb dX0_init_5 (by decide) ?_
  refine pw_newi S w arI (n := 1480) (N := 1480) (by decide) (by decide) (by decide) (by decide) (by decide) dX0_init_8 (fun b cA H w => ?_)
  have w : pw_S D [(cA, .int)] A [(q, .inr (cD, [.null, .int 0, .int 0, .int 0, .int 0, .int 0, .int 0])), (b, .inl (cA, 1480, .inl (fun _ => 0)))] s H [] := w
  refine pw_putF S w px_FD 0 (fs := [.null, .int 0, .int 0, .int 0, .int 0, .int 0, .int 0]) rfl 0 (by decide) eD_9 rfl hnm rfl (v := .ref b) rfl rfl (Nat.le_of_ble_eq_true rfl) dX0_init_10 (fun H locs w => ?_)
  exact pw_retv S hr hlk (b, cA) w trivial (by decide) (by decide) dX0_init_13

set_option maxHeartbeats 4000000 in
set_option maxRecDepth 100000 in
/-- Datagram.isTold -/
theorem px_c_isTold (l : Launch) (D : va_G) (a0 af ab : Nat) (o ar : Nat → Nat) (cI cO : ClassId) (fd : Nat → Int32) (nf : Nat) (sg : Nat → Nat) (nb : Nat) (lw : Nat) (aw : Int32) (tm : Nat) (G : Nat → px_G) (B : Nat → Nat → Int32) (sz : Nat) (j : Nat) (hj : j < 5) (a b d3 : Int32) : pw_Mi l yX0_isTold cX0_isTold 4 .boolean ({ frames := 0, cells := 0, slots := 0, locals := 0 }) D (px_T cI cO) [.ref (o j), .int a, .int b, .int d3] (px_W a0 af ab o ar cI cO fd nf sg nb lw aw tm G B) sz (σ := Unit) (fun r _ => (r = 1 ∧ px_tl (G j) a b d3) ∨ (r = 0 ∧ ¬ px_tl (G j) a b d3)) (fun _ => px_W a0 af ab o ar cI cO fd nf sg nb lw aw tm G B) 0 0 := by
  refine pw_openI (by decide) (Nat.le_of_ble_eq_true rfl) ?_
  intro p e s m below meth c ls S hr hlk hl hsz w
  obtain ⟨hx, hb, hml, hown, hts⟩ := id S
  have hl : lv_has ls 4 [(0, .ref (o j)), (1, .int a), (2, .int b), (3, .int d3)] := hl
  generalize va_A (px_W a0 af ab o ar cI cO fd nf sg nb lw aw tm G B) sz = A at w ⊢
  refine lv_aload_n hx hb dX0_isTold_0 rfl (lv_at hl 0 rfl) ?_
  refine pw_get S w px_FD (3 + 2 * j) (px_ato hj) 1 (by decide) eD_15 (v := .int (G j).1) rfl dX0_isTold_1 ?_
  refine lv_iload_n hx hb dX0_isTold_4 rfl (lv_at hl 1 rfl) ?_
  refine lv_icmp_ne (tgt := 28) hx hb dX0_isTold_5 (by decide) (fun h1 => ?_) (fun h1 => ?_)
  · refine lv_iconst (v := 0) hx hb dX0_isTold_28 (by decide) ?_
    exact pw_retz S hr hlk () rfl w (Or.inr ⟨rfl, fun q => h1 q.1⟩) (by decide) (by decide) dX0_isTold_29
  · refine lv_aload_n hx hb dX0_isTold_8 rfl (lv_at hl 0 rfl) ?_
    refine pw_get S w px_FD (3 + 2 * j) (px_ato hj) 2 (by decide) eD_19 (v := .int (G j).2.1) rfl dX0_isTold_9 ?_
    refine lv_iload_n hx hb dX0_isTold_12 rfl (lv_at hl 2 rfl) ?_
    refine lv_icmp_ne (tgt := 28) hx hb dX0_isTold_13 (by decide) (fun h2 => ?_) (fun h2 => ?_)
    · refine lv_iconst (v := 0) hx hb dX0_isTold_28 (by decide) ?_
      exact pw_retz S hr hlk () rfl w (Or.inr ⟨rfl, fun q => h2 q.2.1⟩) (by decide) (by decide) dX0_isTold_29
    · refine lv_aload_n hx hb dX0_isTold_16 rfl (lv_at hl 0 rfl) ?_
      refine pw_get S w px_FD (3 + 2 * j) (px_ato hj) 3 (by decide) eD_22 (v := .int (G j).2.2.1) rfl dX0_isTold_17 ?_
      refine lv_iload_n hx hb dX0_isTold_20 rfl (lv_at hl 3 rfl) ?_
      refine lv_icmp_ne (tgt := 28) hx hb dX0_isTold_21 (by decide) (fun h3 => ?_) (fun h3 => ?_)
      · refine lv_iconst (v := 0) hx hb dX0_isTold_28 (by decide) ?_
        exact pw_retz S hr hlk () rfl w (Or.inr ⟨rfl, fun q => h3 q.2.2⟩) (by decide) (by decide) dX0_isTold_29
      · refine lv_iconst (v := 1) hx hb dX0_isTold_24 (by decide) ?_
        refine lv_goto (tgt := 29) hx hb dX0_isTold_25 (by decide) ?_
        exact pw_retz S hr hlk () rfl w (Or.inl ⟨rfl, h1, h2, h3⟩) (by decide) (by decide) dX0_isTold_29

set_option maxHeartbeats 4000000 in
set_option maxRecDepth 100000 in
/-- Datagram.holds -/
theorem px_c_holds (l : Launch) (D : va_G) (a0 af ab : Nat) (o ar : Nat → Nat) (cI cO : ClassId) (fd : Nat → Int32) (nf : Nat) (sg : Nat → Nat) (nb : Nat) (lw : Nat) (aw : Int32) (tm : Nat) (G : Nat → px_G) (B : Nat → Nat → Int32) (sz : Nat) (j : Nat) (hj : j < 5) (i : Int32) (zs : Nat) (hz : (G j).2.2.2.1 = nI zs) (hzs : zs ≤ 1480) : pw_Mi l yX0_holds cX0_holds 2 .boolean ({ frames := 0, cells := 0, slots := 0, locals := 0 }) D (px_T cI cO) [.ref (o j), .int i] (px_W a0 af ab o ar cI cO fd nf sg nb lw aw tm G B) sz (σ := Unit) (fun r _ => (r = 1 ∧ px_hd zs (B j) i) ∨ (r = 0 ∧ ¬ px_hd zs (B j) i)) (fun _ => px_W a0 af ab o ar cI cO fd nf sg nb lw aw tm G B) 0 0 := by
  refine pw_openI (by decide) (Nat.le_of_ble_eq_true rfl) ?_
  intro p e s m below meth c ls S hr hlk hl hsz w
  obtain ⟨hx, hb, hml, hown, hts⟩ := id S
  have hl : lv_has ls 2 [(0, .ref (o j)), (1, .int i)] := hl
  generalize va_A (px_W a0 af ab o ar cI cO fd nf sg nb lw aw tm G B) sz = A at w ⊢
  refine lv_iload_n hx hb dX0_holds_0 rfl (lv_at hl 1 rfl) ?_
  refine lv_if_lt (tgt := 26) hx hb dX0_holds_1 (by decide) (fun h1 => ?_) (fun h1 => ?_)
  · refine lv_iconst (v := 0) hx hb dX0_holds_26 (by decide) ?_
    exact pw_retz S hr hlk () rfl w (Or.inr ⟨rfl, fun q => q.1 h1⟩) (by decide) (by decide) dX0_holds_27
  · refine lv_iload_n hx hb dX0_holds_4 rfl (lv_at hl 1 rfl) ?_
    refine lv_aload_n hx hb dX0_holds_5 rfl (lv_at hl 0 rfl) ?_
    refine pw_get S w px_FD (3 + 2 * j) (px_ato hj) 4 (by decide) eD_25 (v := .int (G j).2.2.2.1) rfl dX0_holds_6 ?_
    refine lv_icmp_ge (tgt := 26) hx hb dX0_holds_9 (by decide) (fun h2 => ?_) (fun h2 => ?_)
    · refine lv_iconst (v := 0) hx hb dX0_holds_26 (by decide) ?_
      exact pw_retz S hr hlk () rfl w (Or.inr ⟨rfl, fun q => q.2.1 (by rw [← hz]; exact h2)⟩) (by decide) (by decide) dX0_holds_27
    · refine lv_aload_n hx hb dX0_holds_12 rfl (lv_at hl 0 rfl) ?_
      refine pw_get S w px_FD (3 + 2 * j) (px_ato hj) 0 (by decide) eD_9 (v := .ref (ar j)) rfl dX0_holds_13 ?_
      refine lv_iload_n hx hb dX0_holds_16 rfl (lv_at hl 1 rfl) ?_
      obtain ⟨i9, hi9, rfl⟩ := nI_of h1
      have h2 : ¬ nI zs ≤ nI i9 := by rw [← hz]; exact h2
      have hlt : i9 < zs := Nat.lt_of_not_le (fun q => h2 (nI_le q (by omega)))
      refine pw_iald S w (4 + 2 * j) 0 (px_ata hj) rfl (j := i9) (by omega) (by decide) dX0_holds_17 ?_
      refine lv_iconst (v := (-1)) hx hb dX0_holds_18 (by decide) ?_
      refine lv_icmp_eq (tgt := 26) hx hb dX0_holds_19 (by decide) (fun h3 => ?_) (fun h3 => ?_)
      · refine lv_iconst (v := 0) hx hb dX0_holds_26 (by decide) ?_
        exact pw_retz S hr hlk () rfl w (Or.inr ⟨rfl, fun q => q.2.2 (by rw [nI_clamp hi9]; exact h3)⟩) (by decide) (by decide) dX0_holds_27
      · refine lv_iconst (v := 1) hx hb dX0_holds_22 (by decide) ?_
        refine lv_goto (tgt := 27) hx hb dX0_holds_23 (by decide) ?_
        exact pw_retz S hr hlk () rfl w (Or.inl ⟨rfl, h1, by rw [nI_leI (by omega) hi9]; omega, by rw [nI_clamp hi9]; exact h3⟩) (by decide) (by decide) dX0_holds_27

set_option maxHeartbeats 4000000 in
set_option maxRecDepth 100000 in
/-- Arrays.fill -/
theorem px_c_fill (l : Launch) (D : va_G) (a0 af ab : Nat) (o ar : Nat → Nat) (cI cO : ClassId) (fd : Nat → Int32) (nf : Nat) (sg : Nat → Nat) (nb : Nat) (lw : Nat) (aw : Int32) (tm : Nat) (G : Nat → px_G) (B : Nat → Nat → Int32) (sz : Nat) (j : Nat) (hj : j < 5) (b : Nat → Int32) (v : Int32) : pw_Mv l yF cF 4 ({ frames := 0, cells := 0, slots := 0, locals := 0 }) D (px_T cI cO) [.ref (ar j), .int v] (px_W a0 af ab o ar cI cO fd nf sg nb lw aw tm G (va_up B j b)) sz (σ := Unit) (fun _ => True) (fun _ => px_W a0 af ab o ar cI cO fd nf sg nb lw aw tm G (va_up B j (px_fl b v 1480))) (fun _ => px_T cI cO) 0 0 := by
  refine pw_openV (by decide) (Nat.le_of_ble_eq_true rfl) ?_
  intro p e s m below meth c ls S hr hlk hnm hl hsz w
  obtain ⟨hx, hb, hml, hown, hts⟩ := id S
  have hl : lv_has ls 4 [(0, .ref (ar j)), (1, .int v)] := hl
  generalize va_A (px_W a0 af ab o ar cI cO fd nf sg nb lw aw tm G (va_up B j b)) sz = A at w ⊢
  refine lv_iconst (v := 0) hx hb dF_0 (by decide) ?_
  refine lv_istore_n (lv' := [(2, .int 0), (0, .ref (ar j)), (1, .int v)]) hx hb dF_1 rfl hl (by decide) rfl (fun ls hl => ?_)
  refine lv_aload_n hx hb dF_2 rfl (lv_at hl 1 rfl) ?_
  refine va_alen hx hb w.1 w.2.1 (4 + 2 * j) 0 (px_ata' hj) (ty := .int) rfl (v := 1480) rfl dF_3 ?_
  refine lv_istore_n (lv' := [(3, .int 1480), (2, .int 0), (0, .ref (ar j)), (1, .int v)]) hx hb dF_4 rfl hl (by decide) rfl (fun ls hl => ?_)
  have loop : ∀ (n i : Nat), i ≤ 1480 → 1480 < i + n → ∀ (H : Heap) (locs : List Loc), pw_S D (px_T cI cO) A (px_W a0 af ab o ar cI cO fd nf sg nb lw aw tm G (va_up B j (px_fl b v i))) s H locs → ∀ (ls : Array Slot), lv_has ls 4 [(2, .int (nI i)), (3, .int 1480), (0, .ref (ar j)), (1, .int v)] → W p l e ({ frames := 0, cells := 0, slots := 0, locals := 0 }) s m #[Value.ref (ar j), Value.int v] below meth c H locs 0 0 (MQ below (va_Qv (S := Unit) (fun _ => True) (pw_B D (fun _ => px_W a0 af ab o ar cI cO fd nf sg nb lw aw tm G (va_up B j (px_fl b v 1480))) (fun _ => px_T cI cO) A) A) #[Value.ref (ar j), Value.int v] s 0 0 A) (F0 m 5 ls []) := by
    intro n
    induction n with
    | zero => intro i h1 h2; omega
    | succ n ih =>
      intro i hi hn H locs w ls hl
      refine lv_iload_n hx hb dF_5 rfl (lv_at hl 0 rfl) ?_
      refine lv_iload_n hx hb dF_6 rfl (lv_at hl 1 rfl) ?_
      refine lv_icmp_ge (tgt := 20) hx hb dF_7 (by decide) (fun h1 => ?_) (fun h1 => ?_)
      · have e9 : i = 1480 := by have := (nI_leI (a := 1480) (b := i) (by decide) (by omega)).mp h1; omega
        subst e9
        exact pw_retv S hr hlk () w trivial (by decide) (by decide) dF_20
      · have hlt : i < 1480 := Nat.lt_of_not_le (fun q => h1 ((nI_leI (a := 1480) (b := i) (by decide) (by omega)).mpr q))
        refine lv_aload_n hx hb dF_10 rfl (lv_at hl 2 rfl) ?_
        refine lv_iload_n hx hb dF_11 rfl (lv_at hl 0 rfl) ?_
        refine lv_iload_n hx hb dF_12 rfl (lv_at hl 3 rfl) ?_
        refine pw_iast S w (4 + 2 * j) 0 (px_ata' hj) rfl (j := i) (by omega) (by decide) dF_13 (fun H locs w => ?_)
        have w : pw_S D (px_T cI cO) A (px_W a0 af ab o ar cI cO fd nf sg nb lw aw tm G (va_up B j (px_fl b v (i + 1)))) s _ _ := w.to (by rw [px_seta' hj, px_fl_s])
        refine lv_iinc (v := nI (i + 1)) (lv' := [(2, .int (nI (i + 1))), (3, .int 1480), (0, .ref (ar j)), (1, .int v)]) hx hb dF_14 hl (k := 0) rfl (nI_1 i) (by decide) rfl (fun ls hl => ?_)
        refine lv_goto (tgt := 5) hx hb dF_17 (by decide) ?_
        exact ih (i + 1) (by omega) (by omega) H locs w ls hl
  exact loop 1481 0 (by omega) (by omega) _ _ (w.to (by rw [px_fl_0])) ls (lv_sub hl [1, 0, 2, 3] rfl)

set_option maxHeartbeats 4000000 in
set_option maxRecDepth 100000 in
/-- Datagram.begin -/
theorem px_c_begin (l : Launch) (D : va_G) (a0 af ab : Nat) (o ar : Nat → Nat) (cI cO : ClassId) (fd : Nat → Int32) (nf : Nat) (sg : Nat → Nat) (nb : Nat) (lw : Nat) (aw : Int32) (tm : Nat) (G : Nat → px_G) (B : Nat → Nat → Int32) (sz : Nat) (j : Nat) (hj : j < 5) (g : px_G) (b : Nat → Int32) (a1 a2 a3 a4 a5 : Int32) : pw_Mv l yX0_begin cX0_begin 6 ({ frames := 1, cells := 0, slots := 0, locals := 60 }) D (px_T cI cO) [.ref (o j), .int a1, .int a2, .int a3, .int a4, .int a5] (px_W a0 af ab o ar cI cO fd nf sg nb lw aw tm (va_up G j g) (va_up B j b)) sz (σ := Unit) (fun _ => True) (fun _ => px_W a0 af ab o ar cI cO fd nf sg nb lw aw tm (va_up G j (a1, a2, a3, a4, a4, a5)) (va_up B j (px_fl b (-1) 1480))) (fun _ => px_T cI cO) 0 0 := by
  refine pw_openV (by decide) (Nat.le_of_ble_eq_true rfl) ?_
  intro p e s m below meth c ls S hr hlk hnm hl hsz w
  obtain ⟨hx, hb, hml, hown, hts⟩ := id S
  have hl : lv_has ls 6 [(0, .ref (o j)), (1, .int a1), (2, .int a2), (3, .int a3), (4, .int a4), (5, .int a5)] := hl
  generalize va_A (px_W a0 af ab o ar cI cO fd nf sg nb lw aw tm (va_up G j g) (va_up B j b)) sz = A at w ⊢
  refine lv_aload_n hx hb dX0_begin_0 rfl (lv_at hl 0 rfl) ?_
  refine lv_iload_n hx hb dX0_begin_1 rfl (lv_at hl 1 rfl) ?_
  refine pw_put S w px_FD (3 + 2 * j) (px_ato' hj) 1 (by decide) eD_15 rfl (v := .int a1) rfl rfl (Nat.le_of_ble_eq_true rfl) dX0_begin_2 (fun H locs w => ?_)
  have w : pw_S D (px_T cI cO) A (px_W a0 af ab o ar cI cO fd nf sg nb lw aw tm (va_up G j (a1, g.2.1, g.2.2.1, g.2.2.2.1, g.2.2.2.2.1, g.2.2.2.2.2)) (va_up B j b)) s _ _ := w.to (px_seto' hj (a1, g.2.1, g.2.2.1, g.2.2.2.1, g.2.2.2.2.1, g.2.2.2.2.2))
  refine lv_aload_n hx hb dX0_begin_5 rfl (lv_at hl 0 rfl) ?_
  refine lv_iload_n hx hb dX0_begin_6 rfl (lv_at hl 2 rfl) ?_
  refine pw_put S w px_FD (3 + 2 * j) (px_ato' hj) 2 (by decide) eD_19 rfl (v := .int a2) rfl rfl (Nat.le_of_ble_eq_true rfl) dX0_begin_7 (fun H locs w => ?_)
  have w : pw_S D (px_T cI cO) A (px_W a0 af ab o ar cI cO fd nf sg nb lw aw tm (va_up G j (a1, a2, g.2.2.1, g.2.2.2.1, g.2.2.2.2.1, g.2.2.2.2.2)) (va_up B j b)) s _ _ := w.to (px_seto' hj (a1, a2, g.2.2.1, g.2.2.2.1, g.2.2.2.2.1, g.2.2.2.2.2))
  refine lv_aload_n hx hb dX0_begin_10 rfl (lv_at hl 0 rfl) ?_
  refine lv_iload_n hx hb dX0_begin_11 rfl (lv_at hl 3 rfl) ?_
  refine pw_put S w px_FD (3 + 2 * j) (px_ato' hj) 3 (by decide) eD_22 rfl (v := .int a3) rfl rfl (Nat.le_of_ble_eq_true rfl) dX0_begin_12 (fun H locs w => ?_)
  have w : pw_S D (px_T cI cO) A (px_W a0 af ab o ar cI cO fd nf sg nb lw aw tm (va_up G j (a1, a2, a3, g.2.2.2.1, g.2.2.2.2.1, g.2.2.2.2.2)) (va_up B j b)) s _ _ := w.to (px_seto' hj (a1, a2, a3, g.2.2.2.1, g.2.2.2.2.1, g.2.2.2.2.2))
  refine lv_aload_n hx hb dX0_begin_15 rfl (lv_at hl 0 rfl) ?_
  refine lv_iload hx hb dX0_begin_16 (lv_at hl 4 rfl) ?_
  refine pw_put S w px_FD (3 + 2 * j) (px_ato' hj) 4 (by decide) eD_25 rfl (v := .int a4) rfl rfl (Nat.le_of_ble_eq_true rfl) dX0_begin_18 (fun H locs w => ?_)
  have w : pw_S D (px_T cI cO) A (px_W a0 af ab o ar cI cO fd nf sg nb lw aw tm (va_up G j (a1, a2, a3, a4, g.2.2.2.2.1, g.2.2.2.2.2)) (va_up B j b)) s _ _ := w.to (px_seto' hj (a1, a2, a3, a4, g.2.2.2.2.1, g.2.2.2.2.2))
  refine lv_aload_n hx hb dX0_begin_21 rfl (lv_at hl 0 rfl) ?_
  refine lv_iload hx hb dX0_begin_22 (lv_at hl 4 rfl) ?_
  refine pw_put S w px_FD (3 + 2 * j) (px_ato' hj) 5 (by decide) eD_28 rfl (v := .int a4) rfl rfl (Nat.le_of_ble_eq_true rfl) dX0_begin_24 (fun H locs w => ?_)
  have w : pw_S D (px_T cI cO) A (px_W a0 af ab o ar cI cO fd nf sg nb lw aw tm (va_up G j (a1, a2, a3, a4, a4, g.2.2.2.2.2)) (va_up B j b)) s _ _ := w.to (px_seto' hj (a1, a2, a3, a4, a4, g.2.2.2.2.2))
  refine lv_aload_n hx hb dX0_begin_27 rfl (lv_at hl 0 rfl) ?_
  refine lv_iload hx hb dX0_begin_28 (lv_at hl 5 rfl) ?_
  refine pw_put S w px_FD (3 + 2 * j) (px_ato' hj) 6 (by decide) eD_31 rfl (v := .int a5) rfl rfl (Nat.le_of_ble_eq_true rfl) dX0_begin_30 (fun H locs w => ?_)
  have w : pw_S D (px_T cI cO) A (px_W a0 af ab o ar cI cO fd nf sg nb lw aw tm (va_up G j (a1, a2, a3, a4, a4, a5)) (va_up B j b)) s _ _ := w.to (px_seto' hj (a1, a2, a3, a4, a4, a5))
  refine lv_aload_n hx hb dX0_begin_33 rfl (lv_at hl 0 rfl) ?_
  refine pw_get S w px_FD (3 + 2 * j) (px_ato' hj) 0 (by decide) eD_9 (v := .ref (ar j)) rfl dX0_begin_34 ?_
  refine lv_iconst (v := (-1)) hx hb dX0_begin_37 (by decide) ?_
  refine pw_gov0 w.all (va_runS (As := [.ref (ar j), .int (-1)]) (rest := []) S (px_c_fill l D a0 af ab o ar cI cO fd nf sg nb lw aw tm (va_up G j (a1, a2, a3, a4, a4, a5)) B _ j hj b (-1)) (pw_cs (n := 2) S eD_34 tF iniF kF rfl rfl (by decide +kernel) ⟨by decide, by decide⟩) ⟨pw_blind, pw_pre w.all w.1⟩ rfl rfl hl.1 rfl (lv_room (Nat.le_of_ble_eq_true rfl)) dX0_begin_38 ⟨Nat.zero_le _, Nat.zero_le _⟩) (fun _ H locs _ _ w => ?_)
  have w := w.one
  exact pw_retv S hr hlk () w trivial (by decide) (by decide) dX0_begin_41

set_option maxHeartbeats 4000000 in
set_option maxRecDepth 100000 in
/-- Datagram.take -/
theorem px_c_take (l : Launch) (D : va_G) (a0 af ab : Nat) (o ar : Nat → Nat) (cI cO : ClassId) (fd : Nat → Int32) (nf : Nat) (sg : Nat → Nat) (nb : Nat) (lw : Nat) (aw : Int32) (tm : Nat) (G : Nat → px_G) (B : Nat → Nat → Int32) (sz : Nat) (j : Nat) (hj : j < 5) (g : px_G) (b : Nat → Int32) (ct fr : Nat) (hct : ct + fr ≤ 1480) : pw_Mv l yX0_take cX0_take 5 ({ frames := 0, cells := 0, slots := 0, locals := 0 }) D (px_T cI cO) [.ref (o j), .ref af, .int (nI ct), .int (nI fr)] (px_W a0 af ab o ar cI cO fd nf sg nb lw aw tm (va_up G j g) (va_up B j b)) sz (σ := Unit) (fun _ => True) (fun _ => px_W a0 af ab o ar cI cO fd nf sg nb lw aw tm (va_up G j (g.1, g.2.1, g.2.2.1, g.2.2.2.1, px_tL b fd fr g.2.2.2.2.1 ct, g.2.2.2.2.2)) (va_up B j (px_tB b fd fr ct))) (fun _ => px_T cI cO) 0 0 := by
  refine pw_openV (by decide) (Nat.le_of_ble_eq_true rfl) ?_
  intro p e s m below meth c ls S hr hlk hnm hl hsz w
  obtain ⟨hx, hb, hml, hown, hts⟩ := id S
  have hl : lv_has ls 5 [(0, .ref (o j)), (1, .ref af), (2, .int (nI ct)), (3, .int (nI fr))] := hl
  generalize va_A (px_W a0 af ab o ar cI cO fd nf sg nb lw aw tm (va_up G j g) (va_up B j b)) sz = A at w ⊢
  refine lv_iconst (v := 0) hx hb dX0_take_0 (by decide) ?_
  refine lv_istore (lv' := [(4, .int 0), (0, .ref (o j)), (1, .ref af), (2, .int (nI ct)), (3, .int (nI fr))]) hx hb dX0_take_1 hl (by decide) rfl (fun ls hl => ?_)
  have loop : ∀ (n : Nat) (i : Nat), i ≤ ct → ct < i + n → ∀ (H : Heap) (locs : List Loc), pw_S D (px_T cI cO) A (px_W a0 af ab o ar cI cO fd nf sg nb lw aw tm (va_up G j (g.1, g.2.1, g.2.2.1, g.2.2.2.1, px_tL b fd fr g.2.2.2.2.1 i, g.2.2.2.2.2)) (va_up B j (px_tB b fd fr i))) s H locs → ∀ (ls : Array Slot), lv_has ls 5 [(4, .int (nI i)), (0, .ref (o j)), (1, .ref af), (2, .int (nI ct)), (3, .int (nI fr))] → W p l e ({ frames := 0, cells := 0, slots := 0, locals := 0 }) s m #[Value.ref (o j), Value.ref af, Value.int (nI ct), Value.int (nI fr)] below meth c H locs 0 0 (MQ below (va_Qv (S := Unit) (fun _ => True) (pw_B D (fun _ => px_W a0 af ab o ar cI cO fd nf sg nb lw aw tm (va_up G j (g.1, g.2.1, g.2.2.1, g.2.2.2.1, px_tL b fd fr g.2.2.2.2.1 ct, g.2.2.2.2.2)) (va_up B j (px_tB b fd fr ct))) (fun _ => px_T cI cO) A) A) #[Value.ref (o j), Value.ref af, Value.int (nI ct), Value.int (nI fr)] s 0 0 A) (F0 m 3 ls []) := by
    intro n
    induction n with
    | zero => intros; omega
    | succ n ih =>
      intro i hi hn H locs w ls hl
      refine lv_iload hx hb dX0_take_3 (lv_at hl 0 rfl) ?_
      refine lv_iload_n hx hb dX0_take_5 rfl (lv_at hl 3 rfl) ?_
      refine lv_icmp_ge (tgt := 51) hx hb dX0_take_6 (by decide) (fun h1 => ?_) (fun h1 => ?_)
      · have e9 : i = ct := by have := (nI_leI (a := ct) (b := i) (by omega) (by omega)).mp h1; omega
        subst e9
        exact pw_retv S hr hlk () w trivial (by decide) (by decide) dX0_take_51
      · have hlt : i < ct := Nat.lt_of_not_le (fun q => h1 ((nI_leI (a := ct) (b := i) (by omega) (by omega)).mpr q))
        refine lv_aload_n hx hb dX0_take_9 rfl (lv_at hl 1 rfl) ?_
        refine pw_get S w px_FD (3 + 2 * j) (px_ato' hj) 0 (by decide) eD_9 (v := .ref (ar j)) rfl dX0_take_10 ?_
        refine lv_iload_n hx hb dX0_take_13 rfl (lv_at hl 4 rfl) ?_
        refine lv_iload hx hb dX0_take_14 (lv_at hl 0 rfl) ?_
        refine lv_iadd hx hb dX0_take_16 ?_
        refine pw_top (y := nI (fr + i)) (nI_add fr i) ?_
        refine pw_iald S w (4 + 2 * j) 0 (px_ata' hj) rfl (j := fr + i) (by omega) (by decide) dX0_take_17 ?_
        refine lv_iconst (v := (-1)) hx hb dX0_take_18 (by decide) ?_
        refine lv_icmp_ne (tgt := 45) hx hb dX0_take_19 (by decide) (fun h2 => ?_) (fun h2 => ?_)
        · have w : pw_S D (px_T cI cO) A (px_W a0 af ab o ar cI cO fd nf sg nb lw aw tm (va_up G j (g.1, g.2.1, g.2.2.1, g.2.2.2.1, px_tL b fd fr g.2.2.2.2.1 (i + 1), g.2.2.2.2.2)) (va_up B j (px_tB b fd fr (i + 1)))) s _ _ := w.to (by rw [show px_tB b fd fr (i + 1) = px_tB b fd fr i from if_neg h2, show px_tL b fd fr g.2.2.2.2.1 (i + 1) = px_tL b fd fr g.2.2.2.2.1 i from if_neg h2])
          refine lv_iinc (v := nI (i + 1)) (lv' := [(4, .int (nI (i + 1))), (0, .ref (o j)), (1, .ref af), (2, .int (nI ct)), (3, .int (nI fr))]) hx hb dX0_take_45 hl (k := 0) rfl (nI_1 i) (by decide) rfl (fun ls hl => ?_)
          refine lv_goto (tgt := 3) hx hb dX0_take_48 (by decide) ?_
          exact ih (i + 1) (by omega) (by omega) H locs w ls hl
        · refine lv_aload_n hx hb dX0_take_22 rfl (lv_at hl 1 rfl) ?_
          refine pw_get S w px_FD (3 + 2 * j) (px_ato' hj) 0 (by decide) eD_9 (v := .ref (ar j)) rfl dX0_take_23 ?_
          refine lv_iload_n hx hb dX0_take_26 rfl (lv_at hl 4 rfl) ?_
          refine lv_iload hx hb dX0_take_27 (lv_at hl 0 rfl) ?_
          refine lv_iadd hx hb dX0_take_29 ?_
          refine pw_top (y := nI (fr + i)) (nI_add fr i) ?_
          refine lv_aload_n hx hb dX0_take_30 rfl (lv_at hl 2 rfl) ?_
          refine lv_iload hx hb dX0_take_31 (lv_at hl 0 rfl) ?_
          refine pw_iald S w 1 0 (a := af) (f := fd) (n := 1480) (cA := cI) rfl rfl (j := i) (by omega) (by decide) dX0_take_33 ?_
          refine pw_iast S w (4 + 2 * j) 0 (px_ata' hj) rfl (j := fr + i) (by omega) (by decide) dX0_take_34 (fun H locs w => ?_)
          have w : pw_S D (px_T cI cO) A (px_W a0 af ab o ar cI cO fd nf sg nb lw aw tm (va_up G j (g.1, g.2.1, g.2.2.1, g.2.2.2.1, px_tL b fd fr g.2.2.2.2.1 i, g.2.2.2.2.2)) (va_up B j (upd (px_tB b fd fr i) (fr + i) (fd i)))) s _ _ := w.to (px_seta' hj _)
          refine lv_aload_n hx hb dX0_take_35 rfl (lv_at hl 1 rfl) ?_
          refine lv_dup hx hb dX0_take_36 rfl ?_
          refine pw_get S w px_FD (3 + 2 * j) (px_ato' hj) 5 (by decide) eD_28 (v := .int (g.1, g.2.1, g.2.2.1, g.2.2.2.1, px_tL b fd fr g.2.2.2.2.1 i, g.2.2.2.2.2).2.2.2.2.1) rfl dX0_take_37 ?_
          refine lv_iconst (v := 1) hx hb dX0_take_40 (by decide) ?_
          refine lv_isub hx hb dX0_take_41 ?_
          refine pw_put S w px_FD (3 + 2 * j) (px_ato' hj) 5 (by decide) eD_28 rfl (v := .int (((g.1, g.2.1, g.2.2.1, g.2.2.2.1, px_tL b fd fr g.2.2.2.2.1 i, g.2.2.2.2.2).2.2.2.2.1) - 1)) rfl rfl (Nat.le_of_ble_eq_true rfl) dX0_take_42 (fun H locs w => ?_)
          have w : pw_S D (px_T cI cO) A (px_W a0 af ab o ar cI cO fd nf sg nb lw aw tm (va_up G j (g.1, g.2.1, g.2.2.1, g.2.2.2.1, px_tL b fd fr g.2.2.2.2.1 i - 1, g.2.2.2.2.2)) (va_up B j (upd (px_tB b fd fr i) (fr + i) (fd i)))) s _ _ := w.to (px_seto' hj (g.1, g.2.1, g.2.2.1, g.2.2.2.1, px_tL b fd fr g.2.2.2.2.1 i - 1, g.2.2.2.2.2))
          have w : pw_S D (px_T cI cO) A (px_W a0 af ab o ar cI cO fd nf sg nb lw aw tm (va_up G j (g.1, g.2.1, g.2.2.1, g.2.2.2.1, px_tL b fd fr g.2.2.2.2.1 (i + 1), g.2.2.2.2.2)) (va_up B j (px_tB b fd fr (i + 1)))) s _ _ := w.to (by rw [show px_tB b fd fr (i + 1) = upd (px_tB b fd fr i) (fr + i) (fd i) from if_pos h2, show px_tL b fd fr g.2.2.2.2.1 (i + 1) = px_tL b fd fr g.2.2.2.2.1 i - 1 from if_pos h2])
          refine lv_iinc (v := nI (i + 1)) (lv' := [(4, .int (nI (i + 1))), (0, .ref (o j)), (1, .ref af), (2, .int (nI ct)), (3, .int (nI fr))]) hx hb dX0_take_45 hl (k := 0) rfl (nI_1 i) (by decide) rfl (fun ls hl => ?_)
          refine lv_goto (tgt := 3) hx hb dX0_take_48 (by decide) ?_
          exact ih (i + 1) (by omega) (by omega) H locs w ls hl
  exact loop (ct + 1) 0 (by omega) (by omega) _ _ w ls hl
