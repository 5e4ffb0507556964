set_option maxHeartbeats 4000000 in
set_option maxRecDepth 100000 in
/-- feed -/
theorem px_c_feed (l : Launch) (D : va_G) (a0 af ab : Nat) (o ar : Nat → Nat) (cI cO : ClassId) (fd : Nat → Int32) (nf : Nat) (sg : Nat → Nat) (nb : Nat) (lw : Nat) (aw : Int32) (tm : Nat) (G : Nat → px_G) (B : Nat → Nat → Int32) (sz : Nat) (hl9 : l.stackTraces = false) (hnf : nf ≤ 1480) (x : Int64) (n : Int32) : pw_Xi l yX1_feed cX1_feed 6 .int ({ frames := 6, cells := 1, slots := 6, locals := 150 }) D (px_T cI cO) [.ref a0, .long x, .int n] (px_W a0 af ab o ar cI cO fd nf sg nb lw aw tm G B) sz (σ := Nat × (Nat → Int32)) (fun r u => 1 ≤ u.1 ∧ u.1 ≤ 8 ∧ n = nI u.1 ∧ nf + u.1 ≤ 1480 ∧ u.2 = px_fd fd nf x n u.1 ∧ r = nI (nf + u.1)) (fun u => px_W a0 af ab o ar cI cO u.2 (nf + u.1) sg nb lw aw tm G B) (fun E => (E = exIA ∧ ¬ (1 ≤ n.toInt ∧ n.toInt ≤ 8)) ∨ (E = exIS ∧ (1 ≤ n.toInt ∧ n.toInt ≤ 8) ∧ 1480 < (nf : Int) + n.toInt)) 1 6 := by
  refine pw_openX (by decide) (Nat.le_of_ble_eq_true rfl) ?_
  intro p e s m below meth c ls S hr hlk htb hl hsz w
  obtain ⟨hx, hb, hml, hown, hts⟩ := id S
  have hl : lv_has ls 6 [(0, .ref a0), (1, .long x), (3, .int n)] := hl
  generalize va_A (px_W a0 af ab o ar cI cO fd nf sg nb lw aw tm G B) sz = A at w ⊢
  refine lv_iload_n hx hb dX1_feed_0 rfl (lv_at hl 2 rfl) ?_
  refine lv_iconst (v := 1) hx hb dX1_feed_1 (by decide) ?_
  refine lv_icmp_lt (tgt := 11) hx hb dX1_feed_2 (by decide) (fun h1 => ?_) (fun h1 => ?_)
  · have h9 := Int32.lt_iff_toInt_lt.mp h1
    exact pw_throw (names := exN) S hl9 w (by decide +kernel) (by decide +kernel) eP_24 ini_IA tx26 at24_28_ok gd24_28_ok hl.1 dX1_feed_11 dX1_feed_14 dX1_feed_15 dX1_feed_17 dX1_feed_20 htb (by decide) (by decide) (by decide) (by decide) hlk (Or.inl ⟨rfl, fun q => absurd q.1 (by have : (1 : Int32).toInt = 1 := rfl; omega)⟩) (by decide) (by decide)
  · refine lv_iload_n hx hb dX1_feed_5 rfl (lv_at hl 2 rfl) ?_
    refine lv_bipush (v := 8) hx hb dX1_feed_6 (by decide) ?_
    refine lv_icmp_le (tgt := 21) hx hb dX1_feed_8 (by decide) (fun h2 => ?_) (fun h2 => ?_)
    · have hn1 : 1 ≤ n.toInt := by have h9 := pw_nlt h1; have : (1 : Int32).toInt = 1 := rfl; omega
      have hn8 : n.toInt ≤ 8 := by have h9 := Int32.le_iff_toInt_le.mp h2; have : (8 : Int32).toInt = 8 := rfl; omega
      obtain ⟨n9, hn9, rfl⟩ := nI_of (x := n) (by rw [Int32.lt_iff_toInt_lt]; have : (0 : Int32).toInt = 0 := rfl; omega)
      rw [nI_toInt hn9] at hn1 hn8
      refine lv_iload_n hx hb dX1_feed_21 rfl (lv_at hl 2 rfl) ?_
      refine lv_sipush (v := 1480) hx hb dX1_feed_22 (by decide) ?_
      refine lv_aload_n hx hb dX1_feed_25 rfl (lv_at hl 0 rfl) ?_
      refine pw_get S w px_FP 0 rfl 1 (by decide) eP_31 (v := .int (nI nf)) rfl dX1_feed_26 ?_
      refine lv_isub hx hb dX1_feed_29 ?_
      refine pw_top (y := nI (1480 - nf)) (pk_sub (a := 1480) (b := nf) hnf) ?_
      refine lv_icmp_le (tgt := 43) hx hb dX1_feed_30 (by decide) (fun h3 => ?_) (fun h3 => ?_)
      · have h9 : n9 ≤ 1480 - nf := (nI_leI (by omega) (by omega)).mp h3
        refine lv_iconst (v := 0) hx hb dX1_feed_43 (by decide) ?_
        refine lv_istore (lv' := [(4, .int 0), (0, .ref a0), (1, .long x), (3, .int (nI n9))]) hx hb dX1_feed_44 hl (by decide) rfl (fun ls hl => ?_)
        clear h1 h2 h3
        have loop : ∀ (n : Nat) (i : Nat), i ≤ n9 → n9 < i + n → ∀ (H : Heap) (locs : List Loc), pw_S D (px_T cI cO) A (px_W a0 af ab o ar cI cO (px_fd fd nf x (nI n9) i) nf sg nb lw aw tm G B) s H locs → ∀ (ls : Array Slot), lv_has ls 6 [(4, .int (nI i)), (0, .ref a0), (1, .long x), (3, .int (nI n9))] → W p l e ({ frames := 6, cells := 1, slots := 6, locals := 150 }) s m #[Value.ref a0, Value.long x, Value.int (nI n9)] below meth c H locs 0 0 (vx_MQ below (va_Qi (S := Nat × (Nat → Int32)) (fun r u => 1 ≤ u.1 ∧ u.1 ≤ 8 ∧ nI n9 = nI u.1 ∧ nf + u.1 ≤ 1480 ∧ u.2 = px_fd fd nf x (nI n9) u.1 ∧ r = nI (nf + u.1)) (pw_B D (fun u => px_W a0 af ab o ar cI cO u.2 (nf + u.1) sg nb lw aw tm G B) (fun _ => px_T cI cO) A) A) (pw_X D (px_W a0 af ab o ar cI cO fd nf sg nb lw aw tm G B) (fun E => (E = exIA ∧ ¬ (1 ≤ (nI n9).toInt ∧ (nI n9).toInt ≤ 8)) ∨ (E = exIS ∧ (1 ≤ (nI n9).toInt ∧ (nI n9).toInt ≤ 8) ∧ 1480 < (nf : Int) + (nI n9).toInt)) A) #[Value.ref a0, Value.long x, Value.int (nI n9)] s 1 6 A) (F0 m 46 ls []) := by
          intro n
          induction n with
          | zero => intros; omega
          | succ n ih =>
            intro i hi hn H locs w ls hl
            refine lv_iload hx hb dX1_feed_46 (lv_at hl 0 rfl) ?_
            refine lv_iload_n hx hb dX1_feed_48 rfl (lv_at hl 3 rfl) ?_
            refine lv_icmp_ge (tgt := 90) hx hb dX1_feed_49 (by decide) (fun h1 => ?_) (fun h1 => ?_)
            · have e9 : i = n9 := by have := (nI_leI (a := n9) (b := i) (by omega) (by omega)).mp h1; omega
              subst e9
              refine lv_aload_n hx hb dX1_feed_90 rfl (lv_at hl 1 rfl) ?_
              refine lv_dup hx hb dX1_feed_91 rfl ?_
              refine pw_get S w px_FP 0 rfl 1 (by decide) eP_31 (v := .int (nI nf)) rfl dX1_feed_92 ?_
              refine lv_iload_n hx hb dX1_feed_95 rfl (lv_at hl 3 rfl) ?_
              refine lv_iadd hx hb dX1_feed_96 ?_
              refine pw_top (y := nI (nf + i)) (nI_add nf i) ?_
              refine pw_put S w px_FP 0 (fs := [.ref af, .int (nI nf), .ref ab, .int (nI nb), .ref (o lw), .int aw, .int (nI tm)]) rfl 1 (by decide) eP_31 rfl (v := .int (nI (nf + i))) rfl rfl (Nat.le_of_ble_eq_true rfl) dX1_feed_97 (fun H locs w => ?_)
              have w : pw_S D (px_T cI cO) A (px_W a0 af ab o ar cI cO (px_fd fd nf x (nI i) i) (nf + i) sg nb lw aw tm G B) s _ _ := w
              refine lv_aload_n hx hb dX1_feed_100 rfl (lv_at hl 1 rfl) ?_
              refine pw_get S w px_FP 0 rfl 1 (by decide) eP_31 (v := .int (nI (nf + i))) rfl dX1_feed_101 ?_
              refine vx_ret ?_
              exact pw_reti S hr hlk (i, px_fd fd nf x (nI i) i) w ⟨by omega, by omega, rfl, by omega, rfl, rfl⟩ (by decide) (by decide) dX1_feed_104
            · have hlt : i < n9 := Nat.lt_of_not_le (fun q => h1 ((nI_leI (a := n9) (b := i) (by omega) (by omega)).mpr q))
              refine lv_bipush (v := 8) hx hb dX1_feed_52 (by decide) ?_
              refine lv_iload_n hx hb dX1_feed_54 rfl (lv_at hl 3 rfl) ?_
              refine lv_iconst (v := 1) hx hb dX1_feed_55 (by decide) ?_
              refine lv_isub hx hb dX1_feed_56 ?_
              refine lv_iload hx hb dX1_feed_57 (lv_at hl 0 rfl) ?_
              refine lv_isub hx hb dX1_feed_59 ?_
              refine lv_imul hx hb dX1_feed_60 ?_
              refine lv_istore (lv' := [(5, .int (8 * (((nI n9) - 1) - (nI i)))), (4, .int (nI i)), (0, .ref a0), (1, .long x), (3, .int (nI n9))]) hx hb dX1_feed_61 hl (by decide) rfl (fun ls hl => ?_)
              refine lv_aload_n hx hb dX1_feed_63 rfl (lv_at hl 2 rfl) ?_
              refine pw_get S w px_FP 0 rfl 0 (by decide) eP_9 (v := .ref af) rfl dX1_feed_64 ?_
              refine lv_aload_n hx hb dX1_feed_67 rfl (lv_at hl 2 rfl) ?_
              refine pw_get S w px_FP 0 rfl 1 (by decide) eP_31 (v := .int (nI nf)) rfl dX1_feed_68 ?_
              refine lv_iload hx hb dX1_feed_71 (lv_at hl 1 rfl) ?_
              refine lv_iadd hx hb dX1_feed_73 ?_
              refine pw_top (y := nI (nf + i)) (nI_add nf i) ?_
              refine lv_lload_n hx hb dX1_feed_74 rfl (lv_at hl 3 rfl) ?_
              refine lv_iload hx hb dX1_feed_75 (lv_at hl 0 rfl) ?_
              refine lv_lushr hx hb dX1_feed_77 rfl ?_
              refine lv_l2i hx hb dX1_feed_78 rfl ?_
              refine lv_sipush (v := 255) hx hb dX1_feed_79 (by decide) ?_
              refine lv_iand hx hb dX1_feed_82 ?_
              refine pw_iast S w 1 0 (a := af) (f := px_fd fd nf x (nI n9) i) (n := 1480) (cA := cI) rfl rfl (j := nf + i) (by omega) (by decide) dX1_feed_83 (fun H locs w => ?_)
              have w : pw_S D (px_T cI cO) A (px_W a0 af ab o ar cI cO (px_fd fd nf x (nI n9) (i + 1)) nf sg nb lw aw tm G B) s _ _ := w
              refine lv_iinc (v := nI (i + 1)) (lv' := [(4, .int (nI (i + 1))), (5, .int (8 * (nI n9 - 1 - nI i))), (0, .ref a0), (1, .long x), (3, .int (nI n9))]) hx hb dX1_feed_84 hl (k := 1) rfl (nI_1 i) (by decide) rfl (fun ls hl => ?_)
              refine lv_goto (tgt := 46) hx hb dX1_feed_87 (by decide) ?_
              exact ih (i + 1) (by omega) (by omega) H locs w ls (lv_sub hl [0, 2, 3, 4] rfl)
        exact loop (n9 + 1) 0 (by omega) (by omega) _ _ w ls hl
      · have h9 : ¬ n9 ≤ 1480 - nf := fun q => h3 ((nI_leI (by omega) (by omega)).mpr q)
        exact pw_throw (names := exN) S hl9 w (by decide +kernel) (by decide +kernel) eP_35 ini_IS tx37 at35_39_ok gd35_39_ok hl.1 dX1_feed_33 dX1_feed_36 dX1_feed_37 dX1_feed_39 dX1_feed_42 htb (by decide) (by decide) (by decide) (by decide) hlk (Or.inr ⟨rfl, by rw [nI_toInt hn9]; omega, by rw [nI_toInt hn9]; omega⟩) (by decide) (by decide)
    · have h9 := fun q => h2 (Int32.le_iff_toInt_le.mpr q)
      exact pw_throw (names := exN) S hl9 w (by decide +kernel) (by decide +kernel) eP_24 ini_IA tx26 at24_28_ok gd24_28_ok hl.1 dX1_feed_11 dX1_feed_14 dX1_feed_15 dX1_feed_17 dX1_feed_20 htb (by decide) (by decide) (by decide) (by decide) hlk (Or.inl ⟨rfl, fun q => h9 (by have : (8 : Int32).toInt = 8 := rfl; omega)⟩) (by decide) (by decide)

set_option maxHeartbeats 4000000 in
set_option maxRecDepth 100000 in
/-- pass -/
theorem px_c_pass (l : Launch) (D : va_G) (a0 af ab : Nat) (o ar : Nat → Nat) (cI cO : ClassId) (fd : Nat → Int32) (nf : Nat) (sg : Nat → Nat) (nb : Nat) (lw : Nat) (aw : Int32) (tm : Nat) (G : Nat → px_G) (B : Nat → Nat → Int32) (sz : Nat) (hl9 : l.stackTraces = false) (htm : tm ≤ 1000000000) (hnb : nb ≤ 4) (hsg : ∀ q, q < 4 → sg q < 5) (n : Int32) : pw_Xi l yX1_pass cX1_pass 2 .int ({ frames := 6, cells := 1, slots := 6, locals := 150 }) D (px_T cI cO) [.ref a0, .int n] (px_W a0 af ab o ar cI cO fd nf sg nb lw aw tm G B) sz (σ := Nat) (fun r u => u ≤ 1000000 ∧ n = nI u ∧ tm + u ≤ 1000000000 ∧ r = nI (nb - (px_gv (tm + u) G 4 sg nb).2)) (fun u => px_W a0 af ab o ar cI cO fd nf ((px_gv (tm + u) G 4 sg nb).1) ((px_gv (tm + u) G 4 sg nb).2) lw aw (tm + u) G B) (fun E => (E = exIA ∧ ¬ (0 ≤ n.toInt ∧ n.toInt ≤ 1000000)) ∨ (E = exIS ∧ (0 ≤ n.toInt ∧ n.toInt ≤ 1000000) ∧ 1000000000 < (tm : Int) + n.toInt)) 1 6 := by
  refine pw_openX (by decide) (Nat.le_of_ble_eq_true rfl) ?_
  intro p e s m below meth c ls S hr hlk htb hl hsz w
  obtain ⟨hx, hb, hml, hown, hts⟩ := id S
  have hl : lv_has ls 2 [(0, .ref a0), (1, .int n)] := hl
  generalize va_A (px_W a0 af ab o ar cI cO fd nf sg nb lw aw tm G B) sz = A at w ⊢
  refine lv_iload_n hx hb dX1_pass_0 rfl (lv_at hl 1 rfl) ?_
  refine lv_if_lt (tgt := 10) hx hb dX1_pass_1 (by decide) (fun h1 => ?_) (fun h1 => ?_)
  · have h9 := Int32.lt_iff_toInt_lt.mp h1
    exact pw_throw (names := exN) S hl9 w (by decide +kernel) (by decide +kernel) eP_24 ini_IA tx67 at24_28_ok gd24_28_ok hl.1 dX1_pass_10 dX1_pass_13 dX1_pass_14 dX1_pass_16 dX1_pass_19 htb (by decide) (by decide) (by decide) (by decide) hlk (Or.inl ⟨rfl, fun q => absurd q.1 (by have : (0 : Int32).toInt = 0 := rfl; omega)⟩) (by decide) (by decide)
  · refine lv_iload_n hx hb dX1_pass_4 rfl (lv_at hl 1 rfl) ?_
    refine lv_ldc (v := 1000000) hx hb hown (hts _ cP_66) dX1_pass_5 ?_
    refine lv_icmp_le (tgt := 20) hx hb dX1_pass_7 (by decide) (fun h2 => ?_) (fun h2 => ?_)
    · have hn8 : n.toInt ≤ 1000000 := by have h9 := Int32.le_iff_toInt_le.mp h2; have : (1000000 : Int32).toInt = 1000000 := rfl; omega
      obtain ⟨n9, hn9, rfl⟩ := nI_of h1
      rw [nI_toInt hn9] at hn8
      refine lv_iload_n hx hb dX1_pass_20 rfl (lv_at hl 1 rfl) ?_
      refine lv_ldc (v := 1000000000) hx hb hown (hts _ cP_69) dX1_pass_21 ?_
      refine lv_aload_n hx hb dX1_pass_23 rfl (lv_at hl 0 rfl) ?_
      refine pw_get S w px_FP 0 rfl 6 (by decide) eP_70 (v := .int (nI tm)) rfl dX1_pass_24 ?_
      refine lv_isub hx hb dX1_pass_27 ?_
      refine pw_top (y := nI (1000000000 - tm)) (pk_sub (a := 1000000000) (b := tm) htm) ?_
      refine lv_icmp_le (tgt := 41) hx hb dX1_pass_28 (by decide) (fun h3 => ?_) (fun h3 => ?_)
      · have h9 : n9 ≤ 1000000000 - tm := (nI_leI (by omega) (by omega)).mp h3
        refine lv_aload_n hx hb dX1_pass_41 rfl (lv_at hl 0 rfl) ?_
        refine lv_dup hx hb dX1_pass_42 rfl ?_
        refine pw_get S w px_FP 0 rfl 6 (by decide) eP_70 (v := .int (nI tm)) rfl dX1_pass_43 ?_
        refine lv_iload_n hx hb dX1_pass_46 rfl (lv_at hl 1 rfl) ?_
        refine lv_iadd hx hb dX1_pass_47 ?_
        refine pw_top (y := nI (tm + n9)) (nI_add tm n9) ?_
        refine pw_put S w px_FP 0 (fs := [.ref af, .int (nI nf), .ref ab, .int (nI nb), .ref (o lw), .int aw, .int (nI tm)]) rfl 6 (by decide) eP_70 rfl (v := .int (nI (tm + n9))) rfl rfl (Nat.le_of_ble_eq_true rfl) dX1_pass_48 (fun H locs w => ?_)
        have w : pw_S D (px_T cI cO) A (px_W a0 af ab o ar cI cO fd nf sg nb lw aw (tm + n9) G B) s _ _ := w
        refine lv_aload_n hx hb dX1_pass_51 rfl (lv_at hl 0 rfl) ?_
        refine pw_goi0 w.all (va_runV (C := RP) (As := []) (rest := []) S (px_c_giveUp l D a0 af ab o ar cI cO fd nf sg nb lw aw (tm + n9) G B _ hnb hsg) (pw_cw (n := 0) S eP_75 iP_giveUpOverdue sP_giveUpOverdue iniP kP_giveUpOverdue rfl rfl (by decide +kernel) ⟨by decide, by decide⟩) ⟨pw_blind, va_recv w.1 w.2.1 (ci := cP) (q0 := 0) rfl rfl, pw_pre w.all w.1⟩ rfl rfl hl.1 rfl (lv_room (Nat.le_of_ble_eq_true rfl)) dX1_pass_52 ⟨Nat.zero_le _, Nat.zero_le _⟩) (fun r _ H locs hp w => ?_)
        have w := w.one
        subst hp
        refine vx_ret ?_
        exact pw_reti S hr hlk n9 w ⟨by omega, rfl, by omega, rfl⟩ (by decide) (by decide) dX1_pass_55
      · have h9 : ¬ n9 ≤ 1000000000 - tm := fun q => h3 ((nI_leI (by omega) (by omega)).mpr q)
        exact pw_throw (names := exN) S hl9 w (by decide +kernel) (by decide +kernel) eP_35 ini_IS tx73 at35_39_ok gd35_39_ok hl.1 dX1_pass_31 dX1_pass_34 dX1_pass_35 dX1_pass_37 dX1_pass_40 htb (by decide) (by decide) (by decide) (by decide) hlk (Or.inr ⟨rfl, by rw [nI_toInt hn9]; omega, by rw [nI_toInt hn9]; omega⟩) (by decide) (by decide)
    · have h9 := fun q => h2 (Int32.le_iff_toInt_le.mpr q)
      exact pw_throw (names := exN) S hl9 w (by decide +kernel) (by decide +kernel) eP_24 ini_IA tx67 at24_28_ok gd24_28_ok hl.1 dX1_pass_10 dX1_pass_13 dX1_pass_14 dX1_pass_16 dX1_pass_19 htb (by decide) (by decide) (by decide) (by decide) hlk (Or.inl ⟨rfl, fun q => h9 (by have : (1000000 : Int32).toInt = 1000000 := rfl; omega)⟩) (by decide) (by decide)
