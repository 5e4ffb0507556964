set_option maxHeartbeats 4000000 in
set_option maxRecDepth 100000 in
/-- missing -/
theorem px_c_missing (l : Launch) (D : va_G) (a0 af ab : Nat) (o ar : Nat → Nat) (cI cO : ClassId) (fd : Nat → Int32) (nf : Nat) (sg : Nat → Nat) (nb : Nat) (lw : Nat) (aw : Int32) (tm : Nat) (G : Nat → px_G) (B : Nat → Nat → Int32) (sz : Nat) (hnb : nb ≤ 4) (hsg : ∀ q, q < 4 → sg q < 5) (a b d3 : Int32) : pw_Mi l yX1_missing cX1_missing 5 .int ({ frames := 2, cells := 0, slots := 0, locals := 120 }) D (px_T cI cO) [.ref a0, .int a, .int b, .int d3] (px_W a0 af ab o ar cI cO fd nf sg nb lw aw tm G B) sz (σ := Unit) (fun r _ => ∃ x, px_fnd sg G nb a b d3 x ∧ r = px_ms sg G x) (fun _ => px_W a0 af ab o ar cI cO fd nf sg nb lw aw tm G B) 0 0 := by
  refine pw_openI (by decide) (Nat.le_of_ble_eq_true rfl) ?_
  intro p e s m below meth c ls S hr hlk hl hsz w
  obtain ⟨hx, hb, hml, hown, hts⟩ := id S
  have hl : lv_has ls 5 [(0, .ref a0), (1, .int a), (2, .int b), (3, .int d3)] := hl
  generalize va_A (px_W a0 af ab o ar cI cO fd nf sg nb lw aw tm G B) sz = A at w ⊢
  refine lv_aload_n hx hb dX1_missing_0 rfl (lv_at hl 0 rfl) ?_
  refine lv_iload_n hx hb dX1_missing_1 rfl (lv_at hl 1 rfl) ?_
  refine lv_iload_n hx hb dX1_missing_2 rfl (lv_at hl 2 rfl) ?_
  refine lv_iload_n hx hb dX1_missing_3 rfl (lv_at hl 3 rfl) ?_
  refine pw_goi0 w.all (va_runV (C := RP) (As := [.int a, .int b, .int d3]) (rest := []) S (px_c_placeOf l D a0 af ab o ar cI cO fd nf sg nb lw aw tm G B _ hnb hsg a b d3) (pw_cw (n := 3) S eP_44 iP_placeOf sP_placeOf iniP kP_placeOf rfl rfl (by decide +kernel) ⟨by decide, by decide⟩) ⟨pw_blind, va_recv w.1 w.2.1 (ci := cP) (q0 := 0) rfl rfl, pw_pre w.all w.1⟩ rfl rfl hl.1 rfl (lv_room (Nat.le_of_ble_eq_true rfl)) dX1_missing_4 ⟨Nat.zero_le _, Nat.zero_le _⟩) (fun r _ H locs hp w => ?_)
  have w := w.one
  have w : pw_S D (px_T cI cO) A (px_W a0 af ab o ar cI cO fd nf sg nb lw aw tm G B) s _ _ := w
  obtain ⟨x, hfx, rfl⟩ := hp
  refine lv_istore (lv' := [(4, .int (px_ix x)), (0, .ref a0), (1, .int a), (2, .int b), (3, .int d3)]) hx hb dX1_missing_7 hl (by decide) rfl (fun ls hl => ?_)
  refine lv_iload hx hb dX1_missing_9 (lv_at hl 0 rfl) ?_
  refine lv_iconst (v := (-1)) hx hb dX1_missing_11 (by decide) ?_
  refine lv_icmp_ne (tgt := 19) hx hb dX1_missing_12 (by decide) (fun h1 => ?_) (fun h1 => ?_)
  · obtain ⟨k, rfl⟩ : ∃ k, x = some k := by cases x with | none => exact absurd rfl h1 | some k => exact ⟨k, rfl⟩
    have hk : k < 4 := by have := hfx.1; omega
    have hj : sg k < 5 := hsg k hk
    have hl : lv_has ls 5 [(4, .int (nI k)), (0, .ref a0), (1, .int a), (2, .int b), (3, .int d3)] := hl
    refine lv_aload_n hx hb dX1_missing_19 rfl (lv_at hl 1 rfl) ?_
    refine pw_get S w px_FP 0 rfl 2 (by decide) eP_15 (v := .ref ab) rfl dX1_missing_20 ?_
    refine lv_iload hx hb dX1_missing_23 (lv_at hl 0 rfl) ?_
    refine pw_aald S w 2 1 (v := o (sg k)) rfl rfl (j := k) hk (by decide) (px_bf_at hk) dX1_missing_25 ?_
    refine pw_getN S w px_FD (3 + 2 * (sg k)) (px_ato hj) 5 (by decide) eP_59 (v := .int (G (sg k)).2.2.2.2.1) rfl dX1_missing_26 ?_
    exact pw_reti S hr hlk () w ⟨some k, hfx, rfl⟩ (by decide) (by decide) dX1_missing_29
  · have hx0 : x = none := px_ix_none (fun k hk => by subst hk; exact Nat.lt_of_lt_of_le hfx.1 (by omega)) h1
    refine lv_iconst (v := (-1)) hx hb dX1_missing_15 (by decide) ?_
    refine lv_goto (tgt := 29) hx hb dX1_missing_16 (by decide) ?_
    exact pw_reti S hr hlk () w ⟨x, hfx, by rw [hx0]; rfl⟩ (by decide) (by decide) dX1_missing_29

set_option maxHeartbeats 4000000 in
set_option maxRecDepth 100000 in
/-- has -/
theorem px_c_has (l : Launch) (D : va_G) (a0 af ab : Nat) (o ar : Nat → Nat) (cI cO : ClassId) (fd : Nat → Int32) (nf : Nat) (sg : Nat → Nat) (nb : Nat) (lw : Nat) (aw : Int32) (tm : Nat) (G : Nat → px_G) (B : Nat → Nat → Int32) (sz : Nat) (hnb : nb ≤ 4) (hsg : ∀ q, q < 4 → sg q < 5) (hzs : ∀ q, q < nb → ∃ zs, (G (sg q)).2.2.2.1 = nI zs ∧ zs ≤ 1480) (a b d3 i : Int32) : pw_Mi l yX1_has cX1_has 6 .boolean ({ frames := 2, cells := 0, slots := 0, locals := 120 }) D (px_T cI cO) [.ref a0, .int a, .int b, .int d3, .int i] (px_W a0 af ab o ar cI cO fd nf sg nb lw aw tm G B) sz (σ := Unit) (fun r _ => ∃ x, px_fnd sg G nb a b d3 x ∧ ((r = 1 ∧ px_hs sg G B i x) ∨ (r = 0 ∧ ¬ px_hs sg G B i x))) (fun _ => px_W a0 af ab o ar cI cO fd nf sg nb lw aw tm G B) 0 0 := by
  refine pw_openI (by decide) (Nat.le_of_ble_eq_true rfl) ?_
  intro p e s m below meth c ls S hr hlk hl hsz w
  obtain ⟨hx, hb, hml, hown, hts⟩ := id S
  have hl : lv_has ls 6 [(0, .ref a0), (1, .int a), (2, .int b), (3, .int d3), (4, .int i)] := hl
  generalize va_A (px_W a0 af ab o ar cI cO fd nf sg nb lw aw tm G B) sz = A at w ⊢
  refine lv_aload_n hx hb dX1_has_0 rfl (lv_at hl 0 rfl) ?_
  refine lv_iload_n hx hb dX1_has_1 rfl (lv_at hl 1 rfl) ?_
  refine lv_iload_n hx hb dX1_has_2 rfl (lv_at hl 2 rfl) ?_
  refine lv_iload_n hx hb dX1_has_3 rfl (lv_at hl 3 rfl) ?_
  refine pw_goi0 w.all (va_runV (C := RP) (As := [.int a, .int b, .int d3]) (rest := []) S (px_c_placeOf l D a0 af ab o ar cI cO fd nf sg nb lw aw tm G B _ hnb hsg a b d3) (pw_cw (n := 3) S eP_44 iP_placeOf sP_placeOf iniP kP_placeOf rfl rfl (by decide +kernel) ⟨by decide, by decide⟩) ⟨pw_blind, va_recv w.1 w.2.1 (ci := cP) (q0 := 0) rfl rfl, pw_pre w.all w.1⟩ rfl rfl hl.1 rfl (lv_room (Nat.le_of_ble_eq_true rfl)) dX1_has_4 ⟨Nat.zero_le _, Nat.zero_le _⟩) (fun r _ H locs hp w => ?_)
  have w := w.one
  have w : pw_S D (px_T cI cO) A (px_W a0 af ab o ar cI cO fd nf sg nb lw aw tm G B) s _ _ := w
  obtain ⟨x, hfx, rfl⟩ := hp
  refine lv_istore (lv' := [(5, .int (px_ix x)), (0, .ref a0), (1, .int a), (2, .int b), (3, .int d3), (4, .int i)]) hx hb dX1_has_7 hl (by decide) rfl (fun ls hl => ?_)
  refine lv_iload hx hb dX1_has_9 (lv_at hl 0 rfl) ?_
  refine lv_iconst (v := (-1)) hx hb dX1_has_11 (by decide) ?_
  refine lv_icmp_eq (tgt := 34) hx hb dX1_has_12 (by decide) (fun h1 => ?_) (fun h1 => ?_)
  · have hx0 : x = none := px_ix_none (fun k hk => by subst hk; exact Nat.lt_of_lt_of_le hfx.1 (by omega)) h1
    refine lv_iconst (v := 0) hx hb dX1_has_34 (by decide) ?_
    exact pw_retz S hr hlk () rfl w ⟨x, hfx, Or.inr ⟨rfl, by rw [hx0]; exact fun q => q⟩⟩ (by decide) (by decide) dX1_has_35
  · obtain ⟨k, rfl⟩ : ∃ k, x = some k := by cases x with | none => exact absurd rfl h1 | some k => exact ⟨k, rfl⟩
    have hk : k < 4 := by have := hfx.1; omega
    have hj : sg k < 5 := hsg k hk
    obtain ⟨zs, hz, hz2⟩ := hzs k hfx.1
    have hl : lv_has ls 6 [(5, .int (nI k)), (0, .ref a0), (1, .int a), (2, .int b), (3, .int d3), (4, .int i)] := hl
    refine lv_aload_n hx hb dX1_has_15 rfl (lv_at hl 1 rfl) ?_
    refine pw_get S w px_FP 0 rfl 2 (by decide) eP_15 (v := .ref ab) rfl dX1_has_16 ?_
    refine lv_iload hx hb dX1_has_19 (lv_at hl 0 rfl) ?_
    refine pw_aald S w 2 1 (v := o (sg k)) rfl rfl (j := k) hk (by decide) (px_bf_at hk) dX1_has_21 ?_
    refine lv_iload hx hb dX1_has_22 (lv_at hl 5 rfl) ?_
    refine pw_goi0 w.all (va_runVN (C := RD) (As := [.int i]) (rest := []) S (px_c_holds l D a0 af ab o ar cI cO fd nf sg nb lw aw tm G B _ (sg k) hj i zs hz hz2) (⟨pw_cn (n := 1) S w.2.2.2.2.2 eP_104 iniD kD_holds rfl rfl (by decide +kernel) ⟨by decide, by decide⟩, S.2.2.2.2 _ iD_holds, S.2.2.2.2 _ sD_holds⟩) ⟨pw_blind, va_recv w.1 w.2.1 (ci := cD) (q0 := (3 + 2 * sg k)) rfl (px_ato hj), pw_pre w.all w.1⟩ rfl rfl hl.1 rfl (lv_room (Nat.le_of_ble_eq_true rfl)) dX1_has_24 ⟨Nat.zero_le _, Nat.zero_le _⟩) (fun r _ H locs hp w => ?_)
    have w := w.one
    have w : pw_S D (px_T cI cO) A (px_W a0 af ab o ar cI cO fd nf sg nb lw aw tm G B) s _ _ := w
    refine lv_if_eq (tgt := 34) hx hb dX1_has_27 (by decide) (fun h2 => ?_) (fun h2 => ?_)
    · have ht : ¬ px_hd zs (B (sg k)) i := by rcases hp with hp | hp; exact absurd (hp.1.symm.trans h2) (by decide); exact hp.2
      refine lv_iconst (v := 0) hx hb dX1_has_34 (by decide) ?_
      exact pw_retz S hr hlk () rfl w ⟨some k, hfx, Or.inr ⟨rfl, fun ⟨z9, e9, q9⟩ => ht (by rw [px_sz (hz.symm.trans e9) hz2 q9.2]; exact q9.1)⟩⟩ (by decide) (by decide) dX1_has_35
    · have ht : px_hd zs (B (sg k)) i := by rcases hp with hp | hp; exact hp.2; exact absurd hp.1 h2
      refine lv_iconst (v := 1) hx hb dX1_has_30 (by decide) ?_
      refine lv_goto (tgt := 35) hx hb dX1_has_31 (by decide) ?_
      exact pw_retz S hr hlk () rfl w ⟨some k, hfx, Or.inl ⟨rfl, zs, hz, ht, hz2⟩⟩ (by decide) (by decide) dX1_has_35

set_option maxHeartbeats 4000000 in
set_option maxRecDepth 100000 in
/-- waiting -/
theorem px_c_waiting (l : Launch) (D : va_G) (a0 af ab : Nat) (o ar : Nat → Nat) (cI cO : ClassId) (fd : Nat → Int32) (nf : Nat) (sg : Nat → Nat) (nb : Nat) (lw : Nat) (aw : Int32) (tm : Nat) (G : Nat → px_G) (B : Nat → Nat → Int32) (sz : Nat)  : pw_Mi l yX1_waiting cX1_waiting 1 .int ({ frames := 0, cells := 0, slots := 0, locals := 0 }) D (px_T cI cO) [.ref a0] (px_W a0 af ab o ar cI cO fd nf sg nb lw aw tm G B) sz (σ := Unit) (fun r _ => r = nI nb) (fun _ => px_W a0 af ab o ar cI cO fd nf sg nb lw aw tm G B) 0 0 := by
  refine pw_openI (by decide) (Nat.le_of_ble_eq_true rfl) ?_
  intro p e s m below meth c ls S hr hlk hl hsz w
  obtain ⟨hx, hb, hml, hown, hts⟩ := id S
  have hl : lv_has ls 1 [(0, .ref a0)] := hl
  generalize va_A (px_W a0 af ab o ar cI cO fd nf sg nb lw aw tm G B) sz = A at w ⊢
  refine lv_aload_n hx hb dX1_waiting_0 rfl (lv_at hl 0 rfl) ?_
  refine pw_get S w px_FP 0 rfl 3 (by decide) eP_108 (v := .int (nI nb)) rfl dX1_waiting_1 ?_
  exact pw_reti S hr hlk () w rfl (by decide) (by decide) dX1_waiting_4

set_option maxHeartbeats 4000000 in
set_option maxRecDepth 100000 in
/-- about -/
theorem px_c_about (l : Launch) (D : va_G) (a0 af ab : Nat) (o ar : Nat → Nat) (cI cO : ClassId) (fd : Nat → Int32) (nf : Nat) (sg : Nat → Nat) (nb : Nat) (lw : Nat) (aw : Int32) (tm : Nat) (G : Nat → px_G) (B : Nat → Nat → Int32) (sz : Nat) (hl9 : l.stackTraces = false) (hlw : lw < 5) (n : Int32) : pw_Xi l yX1_about cX1_about 2 .int ({ frames := 6, cells := 1, slots := 6, locals := 150 }) D (px_T cI cO) [.ref a0, .int n] (px_W a0 af ab o ar cI cO fd nf sg nb lw aw tm G B) sz (σ := Unit) (fun r _ => (0 ≤ n.toInt ∧ n.toInt ≤ 3) ∧ ¬ aw = 0 ∧ r = px_ab (G lw) n) (fun _ => px_W a0 af ab o ar cI cO fd nf sg nb lw aw tm G B) (fun E => (E = exIA ∧ ¬ (0 ≤ n.toInt ∧ n.toInt ≤ 3)) ∨ (E = exIS ∧ (0 ≤ n.toInt ∧ n.toInt ≤ 3) ∧ aw = 0)) 1 6 := by
  refine pw_openX (by decide) (Nat.le_of_ble_eq_true rfl) ?_
  intro p e s m below meth c ls S hr hlk htb hl hsz w
  obtain ⟨hx, hb, hml, hown, hts⟩ := id S
  have hl : lv_has ls 2 [(0, .ref a0), (1, .int n)] := hl
  generalize va_A (px_W a0 af ab o ar cI cO fd nf sg nb lw aw tm G B) sz = A at w ⊢
  refine lv_iload_n hx hb dX1_about_0 rfl (lv_at hl 1 rfl) ?_
  refine lv_if_lt (tgt := 9) hx hb dX1_about_1 (by decide) (fun h1 => ?_) (fun h1 => ?_)
  · have h9 := Int32.lt_iff_toInt_lt.mp h1
    exact pw_throw (names := exN) S hl9 w (by decide +kernel) (by decide +kernel) eP_24 ini_IA tx79 at24_28_ok gd24_28_ok hl.1 dX1_about_9 dX1_about_12 dX1_about_13 dX1_about_15 dX1_about_18 htb (by decide) (by decide) (by decide) (by decide) hlk (Or.inl ⟨rfl, fun q => absurd q.1 (by have : (0 : Int32).toInt = 0 := rfl; omega)⟩) (by decide) (by decide)
  · refine lv_iload_n hx hb dX1_about_4 rfl (lv_at hl 1 rfl) ?_
    refine lv_iconst (v := 3) hx hb dX1_about_5 (by decide) ?_
    refine lv_icmp_le (tgt := 19) hx hb dX1_about_6 (by decide) (fun h2 => ?_) (fun h2 => ?_)
    · have hn0 : 0 ≤ n.toInt := by have h9 := pw_nlt h1; have : (0 : Int32).toInt = 0 := rfl; omega
      have hn3 : n.toInt ≤ 3 := by have h9 := Int32.le_iff_toInt_le.mp h2; have : (3 : Int32).toInt = 3 := rfl; omega
      refine lv_aload_n hx hb dX1_about_19 rfl (lv_at hl 0 rfl) ?_
      refine pw_get S w px_FP 0 rfl 5 (by decide) eP_81 (v := .int aw) rfl dX1_about_20 ?_
      refine lv_if_ne (tgt := 36) hx hb dX1_about_23 (by decide) (fun h3 => ?_) (fun h3 => ?_)
      · refine lv_iload_n hx hb dX1_about_36 rfl (lv_at hl 1 rfl) ?_
        have hc : n = 0 ∨ n = 1 ∨ n = 2 ∨ n = 3 := by
          obtain ⟨n9, hn9, rfl⟩ := nI_of h1
          rw [nI_toInt hn9] at hn3
          rcases (show n9 = 0 ∨ n9 = 1 ∨ n9 = 2 ∨ n9 = 3 by omega) with rfl | rfl | rfl | rfl
          · exact Or.inl rfl
          · exact Or.inr (Or.inl rfl)
          · exact Or.inr (Or.inr (Or.inl rfl))
          · exact Or.inr (Or.inr (Or.inr rfl))
        rcases hc with rfl | rfl | rfl | rfl
        · refine lv_tableIn (tgt := 64) hx hb dX1_about_37 (by decide) (by decide) rfl (by decide) ?_
          refine lv_aload_n hx hb dX1_about_64 rfl (lv_at hl 0 rfl) ?_
          refine pw_get S w px_FP 0 rfl 4 (by decide) eP_20 (v := .ref (o lw)) rfl dX1_about_65 ?_
          refine pw_getN S w px_FD (3 + 2 * lw) (px_ato hlw) 1 (by decide) eP_87 (v := .int (G lw).1) rfl dX1_about_68 ?_
          refine vx_ret ?_
          exact pw_reti S hr hlk () w ⟨⟨hn0, hn3⟩, h3, rfl⟩ (by decide) (by decide) dX1_about_71
        · refine lv_tableIn (tgt := 72) hx hb dX1_about_37 (by decide) (by decide) rfl (by decide) ?_
          refine lv_aload_n hx hb dX1_about_72 rfl (lv_at hl 0 rfl) ?_
          refine pw_get S w px_FP 0 rfl 4 (by decide) eP_20 (v := .ref (o lw)) rfl dX1_about_73 ?_
          refine pw_getN S w px_FD (3 + 2 * lw) (px_ato hlw) 2 (by decide) eP_90 (v := .int (G lw).2.1) rfl dX1_about_76 ?_
          refine vx_ret ?_
          exact pw_reti S hr hlk () w ⟨⟨hn0, hn3⟩, h3, rfl⟩ (by decide) (by decide) dX1_about_79
        · refine lv_tableIn (tgt := 80) hx hb dX1_about_37 (by decide) (by decide) rfl (by decide) ?_
          refine lv_aload_n hx hb dX1_about_80 rfl (lv_at hl 0 rfl) ?_
          refine pw_get S w px_FP 0 rfl 4 (by decide) eP_20 (v := .ref (o lw)) rfl dX1_about_81 ?_
          refine pw_getN S w px_FD (3 + 2 * lw) (px_ato hlw) 3 (by decide) eP_93 (v := .int (G lw).2.2.1) rfl dX1_about_84 ?_
          refine vx_ret ?_
          exact pw_reti S hr hlk () w ⟨⟨hn0, hn3⟩, h3, rfl⟩ (by decide) (by decide) dX1_about_87
        · refine lv_tableOut (tgt := 88) hx hb dX1_about_37 (by decide) (by decide) ?_
          refine lv_aload_n hx hb dX1_about_88 rfl (lv_at hl 0 rfl) ?_
          refine pw_get S w px_FP 0 rfl 4 (by decide) eP_20 (v := .ref (o lw)) rfl dX1_about_89 ?_
          refine pw_getN S w px_FD (3 + 2 * lw) (px_ato hlw) 4 (by decide) eP_52 (v := .int (G lw).2.2.2.1) rfl dX1_about_92 ?_
          refine vx_ret ?_
          exact pw_reti S hr hlk () w ⟨⟨hn0, hn3⟩, h3, rfl⟩ (by decide) (by decide) dX1_about_95
      · exact pw_throw (names := exN) S hl9 w (by decide +kernel) (by decide +kernel) eP_35 ini_IS tx85 at35_39_ok gd35_39_ok hl.1 dX1_about_26 dX1_about_29 dX1_about_30 dX1_about_32 dX1_about_35 htb (by decide) (by decide) (by decide) (by decide) hlk (Or.inr ⟨rfl, ⟨hn0, hn3⟩, h3⟩) (by decide) (by decide)
    · have h9 := fun q => h2 (Int32.le_iff_toInt_le.mpr q)
      exact pw_throw (names := exN) S hl9 w (by decide +kernel) (by decide +kernel) eP_24 ini_IA tx79 at24_28_ok gd24_28_ok hl.1 dX1_about_9 dX1_about_12 dX1_about_13 dX1_about_15 dX1_about_18 htb (by decide) (by decide) (by decide) (by decide) hlk (Or.inl ⟨rfl, fun q => h9 (by have : (3 : Int32).toInt = 3 := rfl; omega)⟩) (by decide) (by decide)

set_option maxHeartbeats 4000000 in
set_option maxRecDepth 100000 in
/-- byteAt -/
theorem px_c_byteAt (l : Launch) (D : va_G) (a0 af ab : Nat) (o ar : Nat → Nat) (cI cO : ClassId) (fd : Nat → Int32) (nf : Nat) (sg : Nat → Nat) (nb : Nat) (lw : Nat) (aw : Int32) (tm : Nat) (G : Nat → px_G) (B : Nat → Nat → Int32) (sz : Nat) (hl9 : l.stackTraces = false) (hlw : lw < 5) (zs : Nat) (hzs : ¬ aw = 0 → (G lw).2.2.2.1 = nI zs ∧ zs ≤ 1480) (i : Int32) : pw_Xi l yX1_byteAt cX1_byteAt 2 .int ({ frames := 6, cells := 1, slots := 6, locals := 150 }) D (px_T cI cO) [.ref a0, .int i] (px_W a0 af ab o ar cI cO fd nf sg nb lw aw tm G B) sz (σ := Unit) (fun r _ => ¬ aw = 0 ∧ ∃ i9, i9 < zs ∧ i = nI i9 ∧ r = B lw i9) (fun _ => px_W a0 af ab o ar cI cO fd nf sg nb lw aw tm G B) (fun E => (E = exIS ∧ aw = 0) ∨ (E = exIB ∧ ¬ aw = 0 ∧ ¬ (0 ≤ i.toInt ∧ i.toInt < zs))) 1 6 := by
  refine pw_openX (by decide) (Nat.le_of_ble_eq_true rfl) ?_
  intro p e s m below meth c ls S hr hlk htb hl hsz w
  obtain ⟨hx, hb, hml, hown, hts⟩ := id S
  have hl : lv_has ls 2 [(0, .ref a0), (1, .int i)] := hl
  generalize va_A (px_W a0 af ab o ar cI cO fd nf sg nb lw aw tm G B) sz = A at w ⊢
  refine lv_aload_n hx hb dX1_byteAt_0 rfl (lv_at hl 0 rfl) ?_
  refine pw_get S w px_FP 0 rfl 5 (by decide) eP_81 (v := .int aw) rfl dX1_byteAt_1 ?_
  refine lv_if_ne (tgt := 17) hx hb dX1_byteAt_4 (by decide) (fun h1 => ?_) (fun h1 => ?_)
  · obtain ⟨hz, hz2⟩ := hzs h1
    refine lv_iload_n hx hb dX1_byteAt_17 rfl (lv_at hl 1 rfl) ?_
    refine lv_if_lt (tgt := 32) hx hb dX1_byteAt_18 (by decide) (fun h2 => ?_) (fun h2 => ?_)
    · have h9 := Int32.lt_iff_toInt_lt.mp h2
      exact pw_throw (names := exN) S hl9 w (by decide +kernel) (by decide +kernel) eP_96 ini_IB tx98 at96_100_ok gd96_100_ok hl.1 dX1_byteAt_32 dX1_byteAt_35 dX1_byteAt_36 dX1_byteAt_38 dX1_byteAt_41 htb (by decide) (by decide) (by decide) (by decide) hlk (Or.inr ⟨rfl, h1, fun q => absurd q.1 (by have : (0 : Int32).toInt = 0 := rfl; omega)⟩) (by decide) (by decide)
    · refine lv_iload_n hx hb dX1_byteAt_21 rfl (lv_at hl 1 rfl) ?_
      refine lv_aload_n hx hb dX1_byteAt_22 rfl (lv_at hl 0 rfl) ?_
      refine pw_get S w px_FP 0 rfl 4 (by decide) eP_20 (v := .ref (o lw)) rfl dX1_byteAt_23 ?_
      refine pw_getN S w px_FD (3 + 2 * lw) (px_ato hlw) 4 (by decide) eP_52 (v := .int (G lw).2.2.2.1) rfl dX1_byteAt_26 ?_
      refine lv_icmp_lt (tgt := 42) hx hb dX1_byteAt_29 (by decide) (fun h3 => ?_) (fun h3 => ?_)
      · obtain ⟨i9, hi9, rfl⟩ := nI_of h2
        have hlt : i9 < zs := by rw [hz, nI_ltI hi9 (by omega)] at h3; exact h3
        refine lv_aload_n hx hb dX1_byteAt_42 rfl (lv_at hl 0 rfl) ?_
        refine pw_get S w px_FP 0 rfl 4 (by decide) eP_20 (v := .ref (o lw)) rfl dX1_byteAt_43 ?_
        refine pw_getN S w px_FD (3 + 2 * lw) (px_ato hlw) 0 (by decide) eP_101 (v := .ref (ar lw)) rfl dX1_byteAt_46 ?_
        refine lv_iload_n hx hb dX1_byteAt_49 rfl (lv_at hl 1 rfl) ?_
        refine pw_iald S w (4 + 2 * lw) 0 (px_ata hlw) rfl (j := i9) (by omega) (by decide) dX1_byteAt_50 ?_
        refine vx_ret ?_
        exact pw_reti S hr hlk () w ⟨h1, i9, hlt, rfl, rfl⟩ (by decide) (by decide) dX1_byteAt_51
      · have h9 := fun q => h3 (Int32.lt_iff_toInt_lt.mpr q)
        exact pw_throw (names := exN) S hl9 w (by decide +kernel) (by decide +kernel) eP_96 ini_IB tx98 at96_100_ok gd96_100_ok hl.1 dX1_byteAt_32 dX1_byteAt_35 dX1_byteAt_36 dX1_byteAt_38 dX1_byteAt_41 htb (by decide) (by decide) (by decide) (by decide) hlk (Or.inr ⟨rfl, h1, fun q => h9 (by rw [hz, nI_toInt (by omega)]; exact q.2)⟩) (by decide) (by decide)
  · exact pw_throw (names := exN) S hl9 w (by decide +kernel) (by decide +kernel) eP_35 ini_IS tx85 at35_39_ok gd35_39_ok hl.1 dX1_byteAt_7 dX1_byteAt_10 dX1_byteAt_11 dX1_byteAt_13 dX1_byteAt_16 htb (by decide) (by decide) (by decide) (by decide) hlk (Or.inl ⟨rfl, h1⟩) (by decide) (by decide)
