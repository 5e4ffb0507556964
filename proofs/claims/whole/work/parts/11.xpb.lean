set_option maxHeartbeats 4000000 in
set_option maxRecDepth 100000 in
/-- placeOf -/
theorem px_c_placeOf (l : Launch) (D : va_G) (a0 af ab : Nat) (o ar : Nat → Nat) (cI cO : ClassId) (fd : Nat → Int32) (nf : Nat) (sg : Nat → Nat) (nb : Nat) (lw : Nat) (aw : Int32) (tm : Nat) (G : Nat → px_G) (B : Nat → Nat → Int32) (sz : Nat) (hnb : nb ≤ 4) (hsg : ∀ q, q < 4 → sg q < 5) (a b d3 : Int32) : pw_Mi l yX1_placeOf cX1_placeOf 5 .int ({ frames := 1, cells := 0, slots := 0, locals := 60 }) D (px_T cI cO) [.ref a0, .int a, .int b, .int d3] (px_W a0 af ab o ar cI cO fd nf sg nb lw aw tm G B) sz (σ := Unit) (fun r _ => ∃ x, px_fnd sg G nb a b d3 x ∧ r = px_ix x) (fun _ => px_W a0 af ab o ar cI cO fd nf sg nb lw aw tm G B) 0 0 := by
  refine pw_openI (by decide) (Nat.le_of_ble_eq_true rfl) ?_
  intro p e s m below meth c ls S hr hlk hl hsz w
  obtain ⟨hx, hb, hml, hown, hts⟩ := id S
  have hl : lv_has ls 5 [(0, .ref a0), (1, .int a), (2, .int b), (3, .int d3)] := hl
  generalize va_A (px_W a0 af ab o ar cI cO fd nf sg nb lw aw tm G B) sz = A at w ⊢
  refine lv_iconst (v := 0) hx hb dX1_placeOf_0 (by decide) ?_
  refine lv_istore (lv' := [(4, .int 0), (0, .ref a0), (1, .int a), (2, .int b), (3, .int d3)]) hx hb dX1_placeOf_1 hl (by decide) rfl (fun ls hl => ?_)
  have loop : ∀ (n : Nat) (i : Nat), i ≤ nb → nb < i + n → (∀ q, q < i → ¬ px_tl (G (sg q)) a b d3) → ∀ (H : Heap) (locs : List Loc), pw_S D (px_T cI cO) A (px_W a0 af ab o ar cI cO fd nf sg nb lw aw tm G B) s H locs → ∀ (ls : Array Slot), lv_has ls 5 [(4, .int (nI i)), (0, .ref a0), (1, .int a), (2, .int b), (3, .int d3)] → W p l e ({ frames := 1, cells := 0, slots := 0, locals := 60 }) s m #[Value.ref a0, Value.int a, Value.int b, Value.int d3] below meth c H locs 0 0 (MQ below (va_Qi (S := Unit) (fun r _ => ∃ x, px_fnd sg G nb a b d3 x ∧ r = px_ix x) (pw_B D (fun _ => px_W a0 af ab o ar cI cO fd nf sg nb lw aw tm G B) (fun _ => px_T cI cO) A) A) #[Value.ref a0, Value.int a, Value.int b, Value.int d3] s 0 0 A) (F0 m 3 ls []) := by
    intro n
    induction n with
    | zero => intros; omega
    | succ n ih =>
      intro i hi hn hno H locs w ls hl
      refine lv_iload hx hb dX1_placeOf_3 (lv_at hl 0 rfl) ?_
      refine lv_aload_n hx hb dX1_placeOf_5 rfl (lv_at hl 1 rfl) ?_
      refine pw_get S w px_FP 0 rfl 3 (by decide) eP_108 (v := .int (nI nb)) rfl dX1_placeOf_6 ?_
      refine lv_icmp_ge (tgt := 37) hx hb dX1_placeOf_9 (by decide) (fun h1 => ?_) (fun h1 => ?_)
      · have e9 : i = nb := by have := (nI_leI (a := nb) (b := i) (by omega) (by omega)).mp h1; omega
        refine lv_iconst (v := (-1)) hx hb dX1_placeOf_37 (by decide) ?_
        exact pw_reti S hr hlk () w ⟨none, by subst e9; exact hno, rfl⟩ (by decide) (by decide) dX1_placeOf_38
      · have hlt : i < nb := Nat.lt_of_not_le (fun q => h1 ((nI_leI (a := nb) (b := i) (by omega) (by omega)).mpr q))
        have hj : sg i < 5 := hsg i (by omega)
        refine lv_aload_n hx hb dX1_placeOf_12 rfl (lv_at hl 1 rfl) ?_
        refine pw_get S w px_FP 0 rfl 2 (by decide) eP_15 (v := .ref ab) rfl dX1_placeOf_13 ?_
        refine lv_iload hx hb dX1_placeOf_16 (lv_at hl 0 rfl) ?_
        refine pw_aald S w 2 1 (v := o (sg i)) rfl rfl (j := i) (by omega) (by decide) (px_bf_at (by omega)) dX1_placeOf_18 ?_
        refine lv_iload_n hx hb dX1_placeOf_19 rfl (lv_at hl 2 rfl) ?_
        refine lv_iload_n hx hb dX1_placeOf_20 rfl (lv_at hl 3 rfl) ?_
        refine lv_iload_n hx hb dX1_placeOf_21 rfl (lv_at hl 4 rfl) ?_
        refine pw_goi0 w.all (va_runVN (C := RD) (As := [.int a, .int b, .int d3]) (rest := []) S (px_c_isTold l D a0 af ab o ar cI cO fd nf sg nb lw aw tm G B _ (sg i) hj a b d3) (⟨pw_cn (n := 3) S w.2.2.2.2.2 eP_111 iniD kD_isTold rfl rfl (by decide +kernel) ⟨by decide, by decide⟩, S.2.2.2.2 _ iD_isTold, S.2.2.2.2 _ sD_isTold⟩) ⟨pw_blind, va_recv w.1 w.2.1 (ci := cD) (q0 := (3 + 2 * sg i)) rfl (px_ato hj), pw_pre w.all w.1⟩ rfl rfl hl.1 rfl (lv_room (Nat.le_of_ble_eq_true rfl)) dX1_placeOf_22 ⟨Nat.zero_le _, Nat.zero_le _⟩) (fun r _ H locs hp w => ?_)
        have w := w.one
        refine lv_if_eq (tgt := 31) hx hb dX1_placeOf_25 (by decide) (fun h2 => ?_) (fun h2 => ?_)
        · have ht : ¬ px_tl (G (sg i)) a b d3 := by rcases hp with hp | hp; exact absurd (hp.1.symm.trans h2) (by decide); exact hp.2
          refine lv_iinc (v := nI (i + 1)) (lv' := [(4, .int (nI (i + 1))), (0, .ref a0), (1, .int a), (2, .int b), (3, .int d3)]) hx hb dX1_placeOf_31 hl (k := 0) rfl (nI_1 i) (by decide) rfl (fun ls hl => ?_)
          refine lv_goto (tgt := 3) hx hb dX1_placeOf_34 (by decide) ?_
          exact ih (i + 1) (by omega) (by omega) (fun q hq => by rcases Nat.lt_or_ge q i with z | z; exact hno q z; rw [show q = i by omega]; exact ht) H locs w ls hl
        · refine lv_iload hx hb dX1_placeOf_28 (lv_at hl 0 rfl) ?_
          have ht : px_tl (G (sg i)) a b d3 := by rcases hp with hp | hp; exact hp.2; exact absurd hp.1 h2
          exact pw_reti S hr hlk () w ⟨some i, ⟨hlt, ht, hno⟩, rfl⟩ (by decide) (by decide) dX1_placeOf_30
  exact loop (nb + 1) 0 (by omega) (by omega) (fun q hq => absurd hq (by omega)) _ _ w ls hl

set_option maxHeartbeats 4000000 in
set_option maxRecDepth 100000 in
/-- forget -/
theorem px_c_forget (l : Launch) (D : va_G) (a0 af ab : Nat) (o ar : Nat → Nat) (cI cO : ClassId) (fd : Nat → Int32) (nf : Nat) (sg : Nat → Nat) (nb : Nat) (lw : Nat) (aw : Int32) (tm : Nat) (G : Nat → px_G) (B : Nat → Nat → Int32) (sz : Nat) (k : Nat) (hk : k < nb) (hnb : nb ≤ 4) (hsg : ∀ q, q < 4 → sg q < 5) : pw_Mv l yX1_forget cX1_forget 4 ({ frames := 0, cells := 0, slots := 0, locals := 0 }) D (px_T cI cO) [.ref a0, .int (nI k)] (px_W a0 af ab o ar cI cO fd nf sg nb lw aw tm G B) sz (σ := Unit) (fun _ => True) (fun _ => px_W a0 af ab o ar cI cO fd nf (px_rot sg k nb) (nb - 1) lw aw tm G B) (fun _ => px_T cI cO) 0 0 := by
  refine pw_openV (by decide) (Nat.le_of_ble_eq_true rfl) ?_
  intro p e s m below meth c ls S hr hlk hnm hl hsz w
  obtain ⟨hx, hb, hml, hown, hts⟩ := id S
  have hl : lv_has ls 4 [(0, .ref a0), (1, .int (nI k))] := hl
  generalize va_A (px_W a0 af ab o ar cI cO fd nf sg nb lw aw tm G B) sz = A at w ⊢
  have hjk : sg k < 5 := hsg k (by omega)
  refine lv_aload_n hx hb dX1_forget_0 rfl (lv_at hl 0 rfl) ?_
  refine pw_get S w px_FP 0 rfl 2 (by decide) eP_15 (v := .ref ab) rfl dX1_forget_1 ?_
  refine lv_iload_n hx hb dX1_forget_4 rfl (lv_at hl 1 rfl) ?_
  refine pw_aald S w 2 1 (v := o (sg k)) rfl rfl (j := k) (by omega) (by decide) (px_bf_at (by omega)) dX1_forget_5 ?_
  refine lv_astore_n (lv' := [(2, .ref (o (sg k))), (0, .ref a0), (1, .int (nI k))]) hx hb dX1_forget_6 rfl hl (by decide) rfl (fun ls hl => ?_)
  refine lv_aload_n hx hb dX1_forget_7 rfl (lv_at hl 1 rfl) ?_
  refine lv_dup hx hb dX1_forget_8 rfl ?_
  refine pw_get S w px_FP 0 rfl 3 (by decide) eP_108 (v := .int (nI nb)) rfl dX1_forget_9 ?_
  refine lv_iconst (v := 1) hx hb dX1_forget_12 (by decide) ?_
  refine lv_isub hx hb dX1_forget_13 ?_
  refine pw_top (y := nI (nb - 1)) (px_pred (by omega)) ?_
  refine pw_put S w px_FP 0 (fs := [.ref af, .int (nI nf), .ref ab, .int (nI nb), .ref (o lw), .int aw, .int (nI tm)]) rfl 3 (by decide) eP_108 rfl (v := .int (nI (nb - 1))) rfl rfl (Nat.le_of_ble_eq_true rfl) dX1_forget_14 (fun H locs w => ?_)
  have w : pw_S D (px_T cI cO) A (px_W a0 af ab o ar cI cO fd nf sg (nb - 1) lw aw tm G B) s _ _ := w
  refine lv_iload_n hx hb dX1_forget_17 rfl (lv_at hl 2 rfl) ?_
  refine lv_istore_n (lv' := [(3, .int (nI k)), (2, .ref (o (sg k))), (0, .ref a0), (1, .int (nI k))]) hx hb dX1_forget_18 rfl hl (by decide) rfl (fun ls hl => ?_)
  have loop : ∀ (n : Nat) (i : Nat), k ≤ i → i ≤ nb - 1 → nb - 1 < i + n → ∀ (H : Heap) (locs : List Loc), pw_S D (px_T cI cO) A (px_W a0 af ab o ar cI cO fd nf (px_sh sg k i) (nb - 1) lw aw tm G B) s H locs → ∀ (ls : Array Slot), lv_has ls 4 [(3, .int (nI i)), (2, .ref (o (sg k))), (0, .ref a0), (1, .int (nI k))] → W p l e ({ frames := 0, cells := 0, slots := 0, locals := 0 }) s m #[Value.ref a0, Value.int (nI k)] below meth c H locs 0 0 (MQ below (va_Qv (S := Unit) (fun _ => True) (pw_B D (fun _ => px_W a0 af ab o ar cI cO fd nf (px_rot sg k nb) (nb - 1) lw aw tm G B) (fun _ => px_T cI cO) A) A) #[Value.ref a0, Value.int (nI k)] s 0 0 A) (F0 m 19 ls []) := by
    intro n
    induction n with
    | zero => intros; omega
    | succ n ih =>
      intro i hki hi hn H locs w ls hl
      have hsi : ∀ q, q < 4 → px_sh sg k i q < 5 := px_sh_lt hsg (by omega)
      refine lv_iload_n hx hb dX1_forget_19 rfl (lv_at hl 0 rfl) ?_
      refine lv_aload_n hx hb dX1_forget_20 rfl (lv_at hl 2 rfl) ?_
      refine pw_get S w px_FP 0 rfl 3 (by decide) eP_108 (v := .int (nI (nb - 1))) rfl dX1_forget_21 ?_
      refine lv_icmp_ge (tgt := 47) hx hb dX1_forget_24 (by decide) (fun h1 => ?_) (fun h1 => ?_)
      · have e9 : i = nb - 1 := by have := (nI_leI (a := nb - 1) (b := i) (by omega) (by omega)).mp h1; omega
        subst e9
        refine lv_aload_n hx hb dX1_forget_47 rfl (lv_at hl 2 rfl) ?_
        refine pw_get S w px_FP 0 rfl 2 (by decide) eP_15 (v := .ref ab) rfl dX1_forget_48 ?_
        refine lv_aload_n hx hb dX1_forget_51 rfl (lv_at hl 2 rfl) ?_
        refine pw_get S w px_FP 0 rfl 3 (by decide) eP_108 (v := .int (nI (nb - 1))) rfl dX1_forget_52 ?_
        refine lv_aload_n hx hb dX1_forget_55 rfl (lv_at hl 1 rfl) ?_
        refine pw_aast S w 2 1 (3 + 2 * (sg k)) cD (r := cDr) rfl rfl (px_ato hjk) rfl (j := nb - 1) (by omega) (by decide) dX1_forget_56 (fun H locs w => ?_)
        have w : pw_S D (px_T cI cO) A (px_W a0 af ab o ar cI cO fd nf (va_up (px_sh sg k (nb - 1)) (nb - 1) (sg k)) (nb - 1) lw aw tm G B) s _ _ := w.to (px_sets (by omega) _)
        have w : pw_S D (px_T cI cO) A (px_W a0 af ab o ar cI cO fd nf (px_rot sg k nb) (nb - 1) lw aw tm G B) s _ _ := w
        exact pw_retv S hr hlk () w trivial (by decide) (by decide) dX1_forget_57
      · have hlt : i < nb - 1 := Nat.lt_of_not_le (fun q => h1 ((nI_leI (a := nb - 1) (b := i) (by omega) (by omega)).mpr q))
        refine lv_aload_n hx hb dX1_forget_27 rfl (lv_at hl 2 rfl) ?_
        refine pw_get S w px_FP 0 rfl 2 (by decide) eP_15 (v := .ref ab) rfl dX1_forget_28 ?_
        refine lv_iload_n hx hb dX1_forget_31 rfl (lv_at hl 0 rfl) ?_
        refine lv_aload_n hx hb dX1_forget_32 rfl (lv_at hl 2 rfl) ?_
        refine pw_get S w px_FP 0 rfl 2 (by decide) eP_15 (v := .ref ab) rfl dX1_forget_33 ?_
        refine lv_iload_n hx hb dX1_forget_36 rfl (lv_at hl 0 rfl) ?_
        refine lv_iconst (v := 1) hx hb dX1_forget_37 (by decide) ?_
        refine lv_iadd hx hb dX1_forget_38 ?_
        refine pw_top (y := nI (i + 1)) (nI_1 i) ?_
        refine pw_aald S w 2 1 (v := o ((px_sh sg k i) (i + 1))) rfl rfl (j := i + 1) (by omega) (by decide) (px_bf_at (by omega)) dX1_forget_39 ?_
        refine pw_aast S w 2 1 (3 + 2 * (px_sh sg k i (i + 1))) cD (r := cDr) rfl rfl (px_ato (hsi (i + 1) (by omega))) rfl (j := i) (by omega) (by decide) dX1_forget_40 (fun H locs w => ?_)
        have w : pw_S D (px_T cI cO) A (px_W a0 af ab o ar cI cO fd nf (va_up (px_sh sg k i) i (px_sh sg k i (i + 1))) (nb - 1) lw aw tm G B) s _ _ := w.to (px_sets (by omega) _)
        have w : pw_S D (px_T cI cO) A (px_W a0 af ab o ar cI cO fd nf (px_sh sg k (i + 1)) (nb - 1) lw aw tm G B) s _ _ := w.to (by rw [px_sh_s sg hki])
        refine lv_iinc (v := nI (i + 1)) (lv' := [(3, .int (nI (i + 1))), (2, .ref (o (sg k))), (0, .ref a0), (1, .int (nI k))]) hx hb dX1_forget_41 hl (k := 0) rfl (nI_1 i) (by decide) rfl (fun ls hl => ?_)
        refine lv_goto (tgt := 19) hx hb dX1_forget_44 (by decide) ?_
        exact ih (i + 1) (by omega) (by omega) (by omega) H locs w ls hl
  exact loop nb k (by omega) (by omega) (by omega) _ _ (w.to (by rw [px_sh_0])) ls hl

set_option maxHeartbeats 4000000 in
set_option maxRecDepth 100000 in
/-- finish -/
theorem px_c_finish (l : Launch) (D : va_G) (a0 af ab : Nat) (o ar : Nat → Nat) (cI cO : ClassId) (fd : Nat → Int32) (nf : Nat) (sg : Nat → Nat) (nb : Nat) (lw : Nat) (aw : Int32) (tm : Nat) (G : Nat → px_G) (B : Nat → Nat → Int32) (sz : Nat) (k : Nat) (hk : k < nb) (hnb : nb ≤ 4) (hsg : ∀ q, q < 4 → sg q < 5) (hlw : lw < 5) : pw_Mv l yX1_finish cX1_finish 3 ({ frames := 1, cells := 0, slots := 0, locals := 60 }) D (px_T cI cO) [.ref a0, .int (nI k)] (px_W a0 af ab o ar cI cO fd nf sg nb lw aw tm G B) sz (σ := Unit) (fun _ => True) (fun _ => px_W a0 af ab o ar cI cO fd nf (va_up (px_rot sg k nb) (nb - 1) lw) (nb - 1) (px_rot sg k nb (nb - 1)) 1 tm G B) (fun _ => px_T cI cO) 0 0 := by
  refine pw_openV (by decide) (Nat.le_of_ble_eq_true rfl) ?_
  intro p e s m below meth c ls S hr hlk hnm hl hsz w
  obtain ⟨hx, hb, hml, hown, hts⟩ := id S
  have hl : lv_has ls 3 [(0, .ref a0), (1, .int (nI k))] := hl
  generalize va_A (px_W a0 af ab o ar cI cO fd nf sg nb lw aw tm G B) sz = A at w ⊢
  refine lv_aload_n hx hb dX1_finish_0 rfl (lv_at hl 0 rfl) ?_
  refine lv_iload_n hx hb dX1_finish_1 rfl (lv_at hl 1 rfl) ?_
  refine pw_gov0 w.all (va_runV (C := RP) (As := [.int (nI k)]) (rest := []) S (px_c_forget l D a0 af ab o ar cI cO fd nf sg nb lw aw tm G B _ k hk hnb hsg) (pw_cw (n := 1) S eP_115 iP_forget sP_forget iniP kP_forget rfl rfl (by decide +kernel) ⟨by decide, by decide⟩) ⟨pw_blind, va_recv w.1 w.2.1 (ci := cP) (q0 := 0) rfl rfl, pw_pre w.all w.1⟩ rfl rfl hl.1 rfl (lv_room (Nat.le_of_ble_eq_true rfl)) dX1_finish_2 ⟨Nat.zero_le _, Nat.zero_le _⟩) (fun  _ H locs _ _ w => ?_)
  have w := w.one
  have w : pw_S D (px_T cI cO) A (px_W a0 af ab o ar cI cO fd nf (px_rot sg k nb) (nb - 1) lw aw tm G B) s _ _ := w
  have hs1 := px_rot_lt hsg hk hnb
  refine lv_aload_n hx hb dX1_finish_5 rfl (lv_at hl 0 rfl) ?_
  refine pw_get S w px_FP 0 rfl 4 (by decide) eP_20 (v := .ref (o lw)) rfl dX1_finish_6 ?_
  refine lv_astore_n (lv' := [(2, .ref (o lw)), (0, .ref a0), (1, .int (nI k))]) hx hb dX1_finish_9 rfl hl (by decide) rfl (fun ls hl => ?_)
  refine lv_aload_n hx hb dX1_finish_10 rfl (lv_at hl 1 rfl) ?_
  refine lv_aload_n hx hb dX1_finish_11 rfl (lv_at hl 1 rfl) ?_
  refine pw_get S w px_FP 0 rfl 2 (by decide) eP_15 (v := .ref ab) rfl dX1_finish_12 ?_
  refine lv_aload_n hx hb dX1_finish_15 rfl (lv_at hl 1 rfl) ?_
  refine pw_get S w px_FP 0 rfl 3 (by decide) eP_108 (v := .int (nI (nb - 1))) rfl dX1_finish_16 ?_
  refine pw_aald S w 2 1 (v := o ((px_rot sg k nb) (nb - 1))) rfl rfl (j := nb - 1) (by omega) (by decide) (px_bf_at (by omega)) dX1_finish_19 ?_
  refine pw_put S w px_FP 0 (fs := [.ref af, .int (nI nf), .ref ab, .int (nI (nb - 1)), .ref (o lw), .int aw, .int (nI tm)]) rfl 4 (by decide) eP_20 rfl (v := .ref (o ((px_rot sg k nb) (nb - 1)))) rfl rfl (Nat.le_of_ble_eq_true rfl) dX1_finish_20 (fun H locs w => ?_)
  have w : pw_S D (px_T cI cO) A (px_W a0 af ab o ar cI cO fd nf (px_rot sg k nb) (nb - 1) (px_rot sg k nb (nb - 1)) aw tm G B) s _ _ := w
  refine lv_aload_n hx hb dX1_finish_23 rfl (lv_at hl 1 rfl) ?_
  refine pw_get S w px_FP 0 rfl 2 (by decide) eP_15 (v := .ref ab) rfl dX1_finish_24 ?_
  refine lv_aload_n hx hb dX1_finish_27 rfl (lv_at hl 1 rfl) ?_
  refine pw_get S w px_FP 0 rfl 3 (by decide) eP_108 (v := .int (nI (nb - 1))) rfl dX1_finish_28 ?_
  refine lv_aload_n hx hb dX1_finish_31 rfl (lv_at hl 0 rfl) ?_
  refine pw_aast S w 2 1 (3 + 2 * lw) cD (r := cDr) rfl rfl (px_ato hlw) rfl (j := nb - 1) (by omega) (by decide) dX1_finish_32 (fun H locs w => ?_)
  have w : pw_S D (px_T cI cO) A (px_W a0 af ab o ar cI cO fd nf (va_up (px_rot sg k nb) (nb - 1) lw) (nb - 1) (px_rot sg k nb (nb - 1)) aw tm G B) s _ _ := w.to (px_sets (by omega) _)
  refine lv_aload_n hx hb dX1_finish_33 rfl (lv_at hl 1 rfl) ?_
  refine lv_iconst (v := 1) hx hb dX1_finish_34 (by decide) ?_
  refine pw_put S w px_FP 0 (fs := [.ref af, .int (nI nf), .ref ab, .int (nI (nb - 1)), .ref (o (px_rot sg k nb (nb - 1))), .int aw, .int (nI tm)]) rfl 5 (by decide) eP_81 rfl (v := .int 1) rfl rfl (Nat.le_of_ble_eq_true rfl) dX1_finish_35 (fun H locs w => ?_)
  have w : pw_S D (px_T cI cO) A (px_W a0 af ab o ar cI cO fd nf (va_up (px_rot sg k nb) (nb - 1) lw) (nb - 1) (px_rot sg k nb (nb - 1)) 1 tm G B) s _ _ := w
  exact pw_retv S hr hlk () w trivial (by decide) (by decide) dX1_finish_38

set_option maxHeartbeats 4000000 in
set_option maxRecDepth 100000 in
/-- giveUpOverdue -/
theorem px_c_giveUp (l : Launch) (D : va_G) (a0 af ab : Nat) (o ar : Nat → Nat) (cI cO : ClassId) (fd : Nat → Int32) (nf : Nat) (sg : Nat → Nat) (nb : Nat) (lw : Nat) (aw : Int32) (tm : Nat) (G : Nat → px_G) (B : Nat → Nat → Int32) (sz : Nat) (hnb : nb ≤ 4) (hsg : ∀ q, q < 4 → sg q < 5) : pw_Mi l yX1_giveUpOverdue cX1_giveUpOverdue 2 .int ({ frames := 1, cells := 0, slots := 0, locals := 60 }) D (px_T cI cO) [.ref a0] (px_W a0 af ab o ar cI cO fd nf sg nb lw aw tm G B) sz (σ := Unit) (fun r _ => r = nI (nb - (px_gv tm G 4 sg nb).2)) (fun _ => px_W a0 af ab o ar cI cO fd nf ((px_gv tm G 4 sg nb).1) ((px_gv tm G 4 sg nb).2) lw aw tm G B) 0 0 := by
  refine pw_openI (by decide) (Nat.le_of_ble_eq_true rfl) ?_
  intro p e s m below meth c ls S hr hlk hl hsz w
  obtain ⟨hx, hb, hml, hown, hts⟩ := id S
  have hl : lv_has ls 2 [(0, .ref a0)] := hl
  generalize va_A (px_W a0 af ab o ar cI cO fd nf sg nb lw aw tm G B) sz = A at w ⊢
  refine lv_iconst (v := 0) hx hb dX1_giveUpOverdue_0 (by decide) ?_
  refine lv_istore_n (lv' := [(1, .int 0), (0, .ref a0)]) hx hb dX1_giveUpOverdue_1 rfl hl (by decide) rfl (fun ls hl => ?_)
  have loop : ∀ (n : Nat) (i n1 : Nat) (s1 : Nat → Nat), i ≤ 4 → 4 < i + n → n1 ≤ 4 → (∀ q, q < 4 → s1 q < 5) → n1 + i = nb → px_gv tm G 4 sg nb = px_gv tm G (4 - i) s1 n1 → ∀ (H : Heap) (locs : List Loc), pw_S D (px_T cI cO) A (px_W a0 af ab o ar cI cO fd nf s1 n1 lw aw tm G B) s H locs → ∀ (ls : Array Slot), lv_has ls 2 [(1, .int (nI i)), (0, .ref a0)] → W p l e ({ frames := 1, cells := 0, slots := 0, locals := 60 }) s m #[Value.ref a0] below meth c H locs 0 0 (MQ below (va_Qi (S := Unit) (fun r _ => r = nI (nb - (px_gv tm G 4 sg nb).2)) (pw_B D (fun _ => px_W a0 af ab o ar cI cO fd nf ((px_gv tm G 4 sg nb).1) ((px_gv tm G 4 sg nb).2) lw aw tm G B) (fun _ => px_T cI cO) A) A) #[Value.ref a0] s 0 0 A) (F0 m 2 ls []) := by
    intro n
    induction n with
    | zero => intros; omega
    | succ n ih =>
      intro i n1 s1 hi hn hn1 hs1 hni hgv H locs w ls hl
      refine lv_iload_n hx hb dX1_giveUpOverdue_2 rfl (lv_at hl 0 rfl) ?_
      refine lv_iconst (v := 4) hx hb dX1_giveUpOverdue_3 (by decide) ?_
      refine lv_icmp_ge (tgt := 45) hx hb dX1_giveUpOverdue_4 (by decide) (fun h1 => ?_) (fun h1 => ?_)
      · have e9 : px_gv tm G 4 sg nb = (s1, n1) := hgv.trans (by have := (nI_leI (a := 4) (b := i) (by decide) (by omega)).mp h1; rw [show 4 - i = 0 by omega]; rfl)
        refine lv_iload_n hx hb dX1_giveUpOverdue_45 rfl (lv_at hl 0 rfl) ?_
        exact pw_reti S hr hlk () (w.to (by rw [e9])) (by rw [e9]; show nI i = nI (nb - n1); congr 1; omega) (by decide) (by decide) dX1_giveUpOverdue_46
      · have hlt : i < 4 := Nat.lt_of_not_le (fun q => h1 ((nI_leI (a := 4) (b := i) (by decide) (by omega)).mpr q))
        refine lv_aload_n hx hb dX1_giveUpOverdue_7 rfl (lv_at hl 1 rfl) ?_
        refine pw_get S w px_FP 0 rfl 3 (by decide) eP_108 (v := .int (nI n1)) rfl dX1_giveUpOverdue_8 ?_
        refine lv_if_le (tgt := 45) hx hb dX1_giveUpOverdue_11 (by decide) (fun h2 => ?_) (fun h2 => ?_)
        · have e9 : px_gv tm G 4 sg nb = (s1, n1) := hgv.trans (by rw [show 4 - i = (4 - i - 1) + 1 by omega]; exact if_neg (fun q => h2 |> fun h => absurd ((nI_leI (a := n1) (b := 0) (by omega) (by decide)).mp h) (by omega)))
          refine lv_iload_n hx hb dX1_giveUpOverdue_45 rfl (lv_at hl 0 rfl) ?_
          exact pw_reti S hr hlk () (w.to (by rw [e9])) (by rw [e9]; show nI i = nI (nb - n1); congr 1; omega) (by decide) (by decide) dX1_giveUpOverdue_46
        · have hpos : 0 < n1 := Nat.pos_of_ne_zero (fun q => h2 (by rw [q]; exact nI_le (Nat.le_refl 0) (by decide)))
          have hj0 : s1 0 < 5 := hs1 0 (by omega)
          refine lv_aload_n hx hb dX1_giveUpOverdue_14 rfl (lv_at hl 1 rfl) ?_
          refine pw_get S w px_FP 0 rfl 6 (by decide) eP_70 (v := .int (nI tm)) rfl dX1_giveUpOverdue_15 ?_
          refine lv_aload_n hx hb dX1_giveUpOverdue_18 rfl (lv_at hl 1 rfl) ?_
          refine pw_get S w px_FP 0 rfl 2 (by decide) eP_15 (v := .ref ab) rfl dX1_giveUpOverdue_19 ?_
          refine lv_iconst (v := 0) hx hb dX1_giveUpOverdue_22 (by decide) ?_
          refine pw_top (y := nI 0) rfl ?_
          refine pw_aald S w 2 1 (v := o (s1 0)) rfl rfl (j := 0) (by omega) (by decide) (px_bf_at (by omega)) dX1_giveUpOverdue_23 ?_
          refine pw_getN S w px_FD (3 + 2 * (s1 0)) (px_ato hj0) 6 (by decide) eP_122 (v := .int (G (s1 0)).2.2.2.2.2) rfl dX1_giveUpOverdue_24 ?_
          refine lv_isub hx hb dX1_giveUpOverdue_27 ?_
          refine lv_sipush (v := 300) hx hb dX1_giveUpOverdue_28 (by decide) ?_
          refine lv_icmp_lt (tgt := 45) hx hb dX1_giveUpOverdue_31 (by decide) (fun h3 => ?_) (fun h3 => ?_)
          · have e9 : px_gv tm G 4 sg nb = (s1, n1) := hgv.trans (by rw [show 4 - i = (4 - i - 1) + 1 by omega]; exact if_neg (fun q => q.2 h3))
            refine lv_iload_n hx hb dX1_giveUpOverdue_45 rfl (lv_at hl 0 rfl) ?_
            exact pw_reti S hr hlk () (w.to (by rw [e9])) (by rw [e9]; show nI i = nI (nb - n1); congr 1; omega) (by decide) (by decide) dX1_giveUpOverdue_46
          · refine lv_aload_n hx hb dX1_giveUpOverdue_34 rfl (lv_at hl 1 rfl) ?_
            refine lv_iconst (v := 0) hx hb dX1_giveUpOverdue_35 (by decide) ?_
            refine pw_top (y := nI 0) rfl ?_
            refine pw_gov0 w.all (va_runV (C := RP) (As := [.int (nI 0)]) (rest := []) S (px_c_forget l D a0 af ab o ar cI cO fd nf s1 n1 lw aw tm G B _ 0 hpos hn1 hs1) (pw_cw (n := 1) S eP_115 iP_forget sP_forget iniP kP_forget rfl rfl (by decide +kernel) ⟨by decide, by decide⟩) ⟨pw_blind, va_recv w.1 w.2.1 (ci := cP) (q0 := 0) rfl rfl, pw_pre w.all w.1⟩ rfl rfl hl.1 rfl (lv_room (Nat.le_of_ble_eq_true rfl)) dX1_giveUpOverdue_36 ⟨Nat.zero_le _, Nat.zero_le _⟩) (fun  _ H locs _ _ w => ?_)
            have w := w.one
            have w : pw_S D (px_T cI cO) A (px_W a0 af ab o ar cI cO fd nf (px_rot s1 0 n1) (n1 - 1) lw aw tm G B) s _ _ := w
            refine lv_iinc (v := nI (i + 1)) (lv' := [(1, .int (nI (i + 1))), (0, .ref a0)]) hx hb dX1_giveUpOverdue_39 hl (k := 0) rfl (nI_1 i) (by decide) rfl (fun ls hl => ?_)
            refine lv_goto (tgt := 2) hx hb dX1_giveUpOverdue_42 (by decide) ?_
            exact ih (i + 1) (n1 - 1) (px_rot s1 0 n1) (by omega) (by omega) (by omega) (px_rot_lt hs1 hpos hn1) (by omega) (hgv.trans (by rw [show 4 - i = (4 - (i + 1)) + 1 by omega]; exact if_pos ⟨hpos, h3⟩)) H locs w ls hl
  exact loop 5 0 nb sg (by omega) (by omega) hnb hsg (by omega) rfl _ _ w ls hl

set_option maxHeartbeats 4000000 in
set_option maxRecDepth 100000 in
/-- beginOnBench -/
theorem px_c_beginOnBench (l : Launch) (D : va_G) (a0 af ab : Nat) (o ar : Nat → Nat) (cI cO : ClassId) (fd : Nat → Int32) (nf : Nat) (sg : Nat → Nat) (nb : Nat) (lw : Nat) (aw : Int32) (tm : Nat) (G : Nat → px_G) (B : Nat → Nat → Int32) (sz : Nat) (hnb : nb ≤ 4) (hsg : ∀ q, q < 4 → sg q < 5) (a b d3 wh : Int32) : pw_Mi l yX1_beginOnBench cX1_beginOnBench 6 .int ({ frames := 2, cells := 0, slots := 0, locals := 120 }) D (px_T cI cO) [.ref a0, .int a, .int b, .int d3, .int wh] (px_W a0 af ab o ar cI cO fd nf sg nb lw aw tm G B) sz (σ := Unit) (fun r _ => r = nI (px_mk sg nb).2) (fun _ => px_W a0 af ab o ar cI cO fd nf ((px_mk sg nb).1) ((px_mk sg nb).2 + 1) lw aw tm (va_up G (((px_mk sg nb).1) ((px_mk sg nb).2)) (a, b, d3, wh, wh, nI tm)) (va_up B (((px_mk sg nb).1) ((px_mk sg nb).2)) (px_fl (B (((px_mk sg nb).1) ((px_mk sg nb).2))) (-1) 1480))) 0 0 := by
  refine pw_openI (by decide) (Nat.le_of_ble_eq_true rfl) ?_
  intro p e s m below meth c ls S hr hlk hl hsz w
  obtain ⟨hx, hb, hml, hown, hts⟩ := id S
  have hl : lv_has ls 6 [(0, .ref a0), (1, .int a), (2, .int b), (3, .int d3), (4, .int wh)] := hl
  generalize va_A (px_W a0 af ab o ar cI cO fd nf sg nb lw aw tm G B) sz = A at w ⊢
  refine lv_aload_n hx hb dX1_beginOnBench_0 rfl (lv_at hl 0 rfl) ?_
  refine pw_get S w px_FP 0 rfl 3 (by decide) eP_108 (v := .int (nI nb)) rfl dX1_beginOnBench_1 ?_
  refine lv_iconst (v := 4) hx hb dX1_beginOnBench_4 (by decide) ?_
  refine lv_icmp_ne (tgt := 13) hx hb dX1_beginOnBench_5 (by decide) (fun h1 => ?_) (fun h1 => ?_)
  · have hn4 : nb ≠ 4 := fun q => h1 (by rw [q]; rfl)
    have e9 : px_mk sg nb = (sg, nb) := if_neg hn4
    have hj : sg nb < 5 := hsg nb (by omega)
    refine lv_aload_n hx hb dX1_beginOnBench_13 rfl (lv_at hl 0 rfl) ?_
    refine pw_get S w px_FP 0 rfl 3 (by decide) eP_108 (v := .int (nI nb)) rfl dX1_beginOnBench_14 ?_
    refine lv_istore (lv' := [(5, .int (nI nb)), (0, .ref a0), (1, .int a), (2, .int b), (3, .int d3), (4, .int wh)]) hx hb dX1_beginOnBench_17 hl (by decide) rfl (fun ls hl => ?_)
    refine lv_aload_n hx hb dX1_beginOnBench_19 rfl (lv_at hl 1 rfl) ?_
    refine pw_get S w px_FP 0 rfl 2 (by decide) eP_15 (v := .ref ab) rfl dX1_beginOnBench_20 ?_
    refine lv_iload hx hb dX1_beginOnBench_23 (lv_at hl 0 rfl) ?_
    refine pw_aald S w 2 1 (v := o (sg nb)) rfl rfl (j := nb) (by omega) (by decide) (px_bf_at (by omega)) dX1_beginOnBench_25 ?_
    refine lv_iload_n hx hb dX1_beginOnBench_26 rfl (lv_at hl 2 rfl) ?_
    refine lv_iload_n hx hb dX1_beginOnBench_27 rfl (lv_at hl 3 rfl) ?_
    refine lv_iload_n hx hb dX1_beginOnBench_28 rfl (lv_at hl 4 rfl) ?_
    refine lv_iload hx hb dX1_beginOnBench_29 (lv_at hl 5 rfl) ?_
    refine lv_aload_n hx hb dX1_beginOnBench_31 rfl (lv_at hl 1 rfl) ?_
    refine pw_get S w px_FP 0 rfl 6 (by decide) eP_70 (v := .int (nI tm)) rfl dX1_beginOnBench_32 ?_
    have w : pw_S D (px_T cI cO) A (px_W a0 af ab o ar cI cO fd nf sg nb lw aw tm (va_up G (sg nb) (G (sg nb))) (va_up B (sg nb) (B (sg nb)))) s _ _ := w.to (by rw [px_id, px_id])
    refine pw_gov0 w.all (va_runVN (C := RD) (As := [.int a, .int b, .int d3, .int wh, .int (nI tm)]) (rest := []) S (px_c_begin l D a0 af ab o ar cI cO fd nf sg nb lw aw tm G B _ (sg nb) hj (G (sg nb)) (B (sg nb)) a b d3 wh (nI tm)) (⟨pw_cn (n := 5) S w.2.2.2.2.2 eP_118 iniD kD_begin rfl rfl (by decide +kernel) ⟨by decide, by decide⟩, S.2.2.2.2 _ iD_begin, S.2.2.2.2 _ sD_begin⟩) ⟨pw_blind, va_recv w.1 w.2.1 (ci := cD) (q0 := (3 + 2 * (sg nb))) rfl (px_ato' hj), pw_pre w.all w.1⟩ rfl rfl hl.1 rfl (lv_room (Nat.le_of_ble_eq_true rfl)) dX1_beginOnBench_35 ⟨Nat.zero_le _, Nat.zero_le _⟩) (fun  _ H locs _ _ w => ?_)
    have w := w.one
    have w : pw_S D (px_T cI cO) A (px_W a0 af ab o ar cI cO fd nf sg nb lw aw tm (va_up G (sg nb) (a, b, d3, wh, wh, nI tm)) (va_up B (sg nb) (px_fl (B (sg nb)) (-1) 1480))) s _ _ := w
    refine lv_aload_n hx hb dX1_beginOnBench_38 rfl (lv_at hl 1 rfl) ?_
    refine lv_dup hx hb dX1_beginOnBench_39 rfl ?_
    refine pw_get S w px_FP 0 rfl 3 (by decide) eP_108 (v := .int (nI nb)) rfl dX1_beginOnBench_40 ?_
    refine lv_iconst (v := 1) hx hb dX1_beginOnBench_43 (by decide) ?_
    refine lv_iadd hx hb dX1_beginOnBench_44 ?_
    refine pw_top (y := nI (nb + 1)) (nI_1 _) ?_
    refine pw_put S w px_FP 0 (fs := [.ref af, .int (nI nf), .ref ab, .int (nI nb), .ref (o lw), .int aw, .int (nI tm)]) rfl 3 (by decide) eP_108 rfl (v := .int (nI (nb + 1))) rfl rfl (Nat.le_of_ble_eq_true rfl) dX1_beginOnBench_45 (fun H locs w => ?_)
    have w : pw_S D (px_T cI cO) A (px_W a0 af ab o ar cI cO fd nf sg (nb + 1) lw aw tm (va_up G (sg nb) (a, b, d3, wh, wh, nI tm)) (va_up B (sg nb) (px_fl (B (sg nb)) (-1) 1480))) s _ _ := w
    refine lv_iload hx hb dX1_beginOnBench_48 (lv_at hl 0 rfl) ?_
    exact pw_reti S hr hlk () (w.to (by rw [e9])) (by rw [e9]) (by decide) (by decide) dX1_beginOnBench_50
  · have hn4 : nb = 4 := (nI_eq (a := nb) (b := 4) (by omega) (by decide)).mp h1
    have e9 : px_mk sg nb = (px_rot sg 0 nb, nb - 1) := if_pos hn4
    refine lv_aload_n hx hb dX1_beginOnBench_8 rfl (lv_at hl 0 rfl) ?_
    refine lv_iconst (v := 0) hx hb dX1_beginOnBench_9 (by decide) ?_
    refine pw_top (y := nI 0) rfl ?_
    refine pw_gov0 w.all (va_runV (C := RP) (As := [.int (nI 0)]) (rest := []) S (px_c_forget l D a0 af ab o ar cI cO fd nf sg nb lw aw tm G B _ 0 (by omega) hnb hsg) (pw_cw (n := 1) S eP_115 iP_forget sP_forget iniP kP_forget rfl rfl (by decide +kernel) ⟨by decide, by decide⟩) ⟨pw_blind, va_recv w.1 w.2.1 (ci := cP) (q0 := 0) rfl rfl, pw_pre w.all w.1⟩ rfl rfl hl.1 rfl (lv_room (Nat.le_of_ble_eq_true rfl)) dX1_beginOnBench_10 ⟨Nat.zero_le _, Nat.zero_le _⟩) (fun  _ H locs _ _ w => ?_)
    have w := w.one
    have w : pw_S D (px_T cI cO) A (px_W a0 af ab o ar cI cO fd nf (px_rot sg 0 nb) (nb - 1) lw aw tm G B) s _ _ := w
    have hs1 := px_rot_lt hsg (show 0 < nb by omega) hnb
    have hj : (px_rot sg 0 nb) (nb - 1) < 5 := hs1 (nb - 1) (by omega)
    refine lv_aload_n hx hb dX1_beginOnBench_13 rfl (lv_at hl 0 rfl) ?_
    refine pw_get S w px_FP 0 rfl 3 (by decide) eP_108 (v := .int (nI (nb - 1))) rfl dX1_beginOnBench_14 ?_
    refine lv_istore (lv' := [(5, .int (nI (nb - 1))), (0, .ref a0), (1, .int a), (2, .int b), (3, .int d3), (4, .int wh)]) hx hb dX1_beginOnBench_17 hl (by decide) rfl (fun ls hl => ?_)
    refine lv_aload_n hx hb dX1_beginOnBench_19 rfl (lv_at hl 1 rfl) ?_
    refine pw_get S w px_FP 0 rfl 2 (by decide) eP_15 (v := .ref ab) rfl dX1_beginOnBench_20 ?_
    refine lv_iload hx hb dX1_beginOnBench_23 (lv_at hl 0 rfl) ?_
    refine pw_aald S w 2 1 (v := o ((px_rot sg 0 nb) (nb - 1))) rfl rfl (j := nb - 1) (by omega) (by decide) (px_bf_at (by omega)) dX1_beginOnBench_25 ?_
    refine lv_iload_n hx hb dX1_beginOnBench_26 rfl (lv_at hl 2 rfl) ?_
    refine lv_iload_n hx hb dX1_beginOnBench_27 rfl (lv_at hl 3 rfl) ?_
    refine lv_iload_n hx hb dX1_beginOnBench_28 rfl (lv_at hl 4 rfl) ?_
    refine lv_iload hx hb dX1_beginOnBench_29 (lv_at hl 5 rfl) ?_
    refine lv_aload_n hx hb dX1_beginOnBench_31 rfl (lv_at hl 1 rfl) ?_
    refine pw_get S w px_FP 0 rfl 6 (by decide) eP_70 (v := .int (nI tm)) rfl dX1_beginOnBench_32 ?_
    have w : pw_S D (px_T cI cO) A (px_W a0 af ab o ar cI cO fd nf (px_rot sg 0 nb) (nb - 1) lw aw tm (va_up G ((px_rot sg 0 nb) (nb - 1)) (G ((px_rot sg 0 nb) (nb - 1)))) (va_up B ((px_rot sg 0 nb) (nb - 1)) (B ((px_rot sg 0 nb) (nb - 1))))) s _ _ := w.to (by rw [px_id, px_id])
    refine pw_gov0 w.all (va_runVN (C := RD) (As := [.int a, .int b, .int d3, .int wh, .int (nI tm)]) (rest := []) S (px_c_begin l D a0 af ab o ar cI cO fd nf (px_rot sg 0 nb) (nb - 1) lw aw tm G B _ ((px_rot sg 0 nb) (nb - 1)) hj (G ((px_rot sg 0 nb) (nb - 1))) (B ((px_rot sg 0 nb) (nb - 1))) a b d3 wh (nI tm)) (⟨pw_cn (n := 5) S w.2.2.2.2.2 eP_118 iniD kD_begin rfl rfl (by decide +kernel) ⟨by decide, by decide⟩, S.2.2.2.2 _ iD_begin, S.2.2.2.2 _ sD_begin⟩) ⟨pw_blind, va_recv w.1 w.2.1 (ci := cD) (q0 := (3 + 2 * ((px_rot sg 0 nb) (nb - 1)))) rfl (px_ato' hj), pw_pre w.all w.1⟩ rfl rfl hl.1 rfl (lv_room (Nat.le_of_ble_eq_true rfl)) dX1_beginOnBench_35 ⟨Nat.zero_le _, Nat.zero_le _⟩) (fun  _ H locs _ _ w => ?_)
    have w := w.one
    have w : pw_S D (px_T cI cO) A (px_W a0 af ab o ar cI cO fd nf (px_rot sg 0 nb) (nb - 1) lw aw tm (va_up G ((px_rot sg 0 nb) (nb - 1)) (a, b, d3, wh, wh, nI tm)) (va_up B ((px_rot sg 0 nb) (nb - 1)) (px_fl (B ((px_rot sg 0 nb) (nb - 1))) (-1) 1480))) s _ _ := w
    refine lv_aload_n hx hb dX1_beginOnBench_38 rfl (lv_at hl 1 rfl) ?_
    refine lv_dup hx hb dX1_beginOnBench_39 rfl ?_
    refine pw_get S w px_FP 0 rfl 3 (by decide) eP_108 (v := .int (nI (nb - 1))) rfl dX1_beginOnBench_40 ?_
    refine lv_iconst (v := 1) hx hb dX1_beginOnBench_43 (by decide) ?_
    refine lv_iadd hx hb dX1_beginOnBench_44 ?_
    refine pw_top (y := nI (nb - 1 + 1)) (nI_1 _) ?_
    refine pw_put S w px_FP 0 (fs := [.ref af, .int (nI nf), .ref ab, .int (nI (nb - 1)), .ref (o lw), .int aw, .int (nI tm)]) rfl 3 (by decide) eP_108 rfl (v := .int (nI (nb - 1 + 1))) rfl rfl (Nat.le_of_ble_eq_true rfl) dX1_beginOnBench_45 (fun H locs w => ?_)
    have w : pw_S D (px_T cI cO) A (px_W a0 af ab o ar cI cO fd nf (px_rot sg 0 nb) (nb - 1 + 1) lw aw tm (va_up G ((px_rot sg 0 nb) (nb - 1)) (a, b, d3, wh, wh, nI tm)) (va_up B ((px_rot sg 0 nb) (nb - 1)) (px_fl (B ((px_rot sg 0 nb) (nb - 1))) (-1) 1480))) s _ _ := w
    refine lv_iload hx hb dX1_beginOnBench_48 (lv_at hl 0 rfl) ?_
    exact pw_reti S hr hlk () (w.to (by rw [e9])) (by rw [e9]) (by decide) (by decide) dX1_beginOnBench_50
