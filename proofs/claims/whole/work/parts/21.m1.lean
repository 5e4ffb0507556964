set_option maxHeartbeats 4000000 in
set_option maxRecDepth 100000 in
/-- the reference: thrown -/
theorem pm_c_thrown (l : Launch) (D : va_G) (m0 : Nat) (ad : Nat → Nat) (cI : ClassId) (cd : Int32) (mt : Nat) (mf : Nat) (fd : Nat → Int32) (ct : Nat) (sc : Nat → Int32) (gl : Nat → Int32) (nu : Nat → Int32) (si : Nat → Int32) (wh : Nat → Int32) (pl : Nat → Int32) (sm : Int32) (ms : Int32) (mg : Int32) (mn : Int32) (mk : Int32) (md : Nat → Int32) (sz : Nat)  : pw_Mi l yM_thrown cM_thrown 1 .int ({ frames := 0, cells := 0, slots := 0, locals := 0 }) D [(cI, .int)] [.ref m0] (pm_W m0 ad cI cd mt mf fd ct sc gl nu si wh pl sm ms mg mn mk md) sz (σ := Unit) (fun r _ => r = cd) (fun _ => pm_W m0 ad cI cd mt mf fd ct sc gl nu si wh pl sm ms mg mn mk md) 0 0 := by
  refine pw_openI (by decide) (Nat.le_of_ble_eq_true rfl) ?_
  intro p e s m below meth c ls S hr hlk hl hsz w
  obtain ⟨hx, hb, hml, hown, hts⟩ := id S
  have hl : lv_has ls 1 [(0, .ref m0)] := hl
  generalize va_A (pm_W m0 ad cI cd mt mf fd ct sc gl nu si wh pl sm ms mg mn mk md) sz = A at w ⊢
  refine lv_aload_n hx hb dM_thrown_0 rfl (lv_at hl 0 rfl) ?_
  refine pw_get S w pm_FM 0 rfl 0 (by decide) eM_34 (v := .int cd) rfl dM_thrown_1 ?_
  exact pw_reti S hr hlk () w rfl (by decide) (by decide) dM_thrown_4

set_option maxHeartbeats 4000000 in
set_option maxRecDepth 100000 in
/-- the reference: waiting -/
theorem pm_c_waiting (l : Launch) (D : va_G) (m0 : Nat) (ad : Nat → Nat) (cI : ClassId) (cd : Int32) (mt : Nat) (mf : Nat) (fd : Nat → Int32) (ct : Nat) (sc : Nat → Int32) (gl : Nat → Int32) (nu : Nat → Int32) (si : Nat → Int32) (wh : Nat → Int32) (pl : Nat → Int32) (sm : Int32) (ms : Int32) (mg : Int32) (mn : Int32) (mk : Int32) (md : Nat → Int32) (sz : Nat)  : pw_Mi l yM_waiting cM_waiting 1 .int ({ frames := 0, cells := 0, slots := 0, locals := 0 }) D [(cI, .int)] [.ref m0] (pm_W m0 ad cI cd mt mf fd ct sc gl nu si wh pl sm ms mg mn mk md) sz (σ := Unit) (fun r _ => r = nI ct) (fun _ => pm_W m0 ad cI 0 mt mf fd ct sc gl nu si wh pl sm ms mg mn mk md) 0 0 := by
  refine pw_openI (by decide) (Nat.le_of_ble_eq_true rfl) ?_
  intro p e s m below meth c ls S hr hlk hl hsz w
  obtain ⟨hx, hb, hml, hown, hts⟩ := id S
  have hl : lv_has ls 1 [(0, .ref m0)] := hl
  generalize va_A (pm_W m0 ad cI cd mt mf fd ct sc gl nu si wh pl sm ms mg mn mk md) sz = A at w ⊢
  refine lv_aload_n hx hb dM_waiting_0 rfl (lv_at hl 0 rfl) ?_
  refine lv_iconst (v := 0) hx hb dM_waiting_1 (by decide) ?_
  refine pw_put S w pm_FM 0 (fs := [.int cd, .int (nI mt), .int (nI mf), .ref (ad 0), .int (nI ct), .ref (ad 1), .ref (ad 2), .ref (ad 3), .ref (ad 4), .ref (ad 5), .ref (ad 6), .int sm, .int ms, .int mg, .int mn, .int mk, .ref (ad 7)]) rfl 0 (by decide) eM_34 rfl (v := .int 0) rfl rfl (Nat.le_of_ble_eq_true rfl) dM_waiting_2 (fun H locs w => ?_)
  have w : pw_S D [(cI, .int)] A (pm_W m0 ad cI 0 mt mf fd ct sc gl nu si wh pl sm ms mg mn mk md) s _ _ := w
  refine lv_aload_n hx hb dM_waiting_5 rfl (lv_at hl 0 rfl) ?_
  refine pw_get S w pm_FM 0 rfl 4 (by decide) eM_43 (v := .int (nI ct)) rfl dM_waiting_6 ?_
  exact pw_reti S hr hlk () w rfl (by decide) (by decide) dM_waiting_9

set_option maxHeartbeats 4000000 in
set_option maxRecDepth 100000 in
/-- the reference: find -/
theorem pm_c_find (l : Launch) (D : va_G) (m0 : Nat) (ad : Nat → Nat) (cI : ClassId) (cd : Int32) (mt : Nat) (mf : Nat) (fd : Nat → Int32) (ct : Nat) (sc : Nat → Int32) (gl : Nat → Int32) (nu : Nat → Int32) (si : Nat → Int32) (wh : Nat → Int32) (pl : Nat → Int32) (sm : Int32) (ms : Int32) (mg : Int32) (mn : Int32) (mk : Int32) (md : Nat → Int32) (sz : Nat) (hct : ct ≤ 4) (a b d3 : Int32) : pw_Mi l yM_find cM_find 6 .int ({ frames := 0, cells := 0, slots := 0, locals := 0 }) D [(cI, .int)] [.ref m0, .int a, .int b, .int d3] (pm_W m0 ad cI cd mt mf fd ct sc gl nu si wh pl sm ms mg mn mk md) sz (σ := Unit) (fun r _ => ∃ x, pm_fnd sc gl nu ct a b d3 x ∧ r = px_ix x) (fun _ => pm_W m0 ad cI cd mt mf fd ct sc gl nu si wh pl sm ms mg mn mk md) 0 0 := by
  refine pw_openI (by decide) (Nat.le_of_ble_eq_true rfl) ?_
  intro p e s m below meth c ls S hr hlk hl hsz w
  obtain ⟨hx, hb, hml, hown, hts⟩ := id S
  have hl : lv_has ls 6 [(0, .ref m0), (1, .int a), (2, .int b), (3, .int d3)] := hl
  generalize va_A (pm_W m0 ad cI cd mt mf fd ct sc gl nu si wh pl sm ms mg mn mk md) sz = A at w ⊢
  refine lv_iconst (v := (-1)) hx hb dM_find_0 (by decide) ?_
  refine lv_istore (lv' := [(4, .int (-1)), (0, .ref m0), (1, .int a), (2, .int b), (3, .int d3)]) hx hb dM_find_1 hl (by decide) rfl (fun ls hl => ?_)
  refine lv_iconst (v := 0) hx hb dM_find_3 (by decide) ?_
  refine lv_istore (lv' := [(5, .int 0), (4, .int (-1)), (0, .ref m0), (1, .int a), (2, .int b), (3, .int d3)]) hx hb dM_find_4 hl (by decide) rfl (fun ls hl => ?_)
  have loop : ∀ (n : Nat) (i : Nat) (x : Option Nat), i ≤ ct → ct < i + n → pm_fnd sc gl nu i a b d3 x → ∀ (H : Heap) (locs : List Loc), pw_S D [(cI, .int)] A (pm_W m0 ad cI cd mt mf fd ct sc gl nu si wh pl sm ms mg mn mk md) s H locs → ∀ (ls : Array Slot), lv_has ls 6 [(5, .int (nI i)), (4, .int (px_ix x)), (0, .ref m0), (1, .int a), (2, .int b), (3, .int d3)] → W p l e ({ frames := 0, cells := 0, slots := 0, locals := 0 }) s m #[Value.ref m0, Value.int a, Value.int b, Value.int d3] below meth c H locs 0 0 (MQ below (va_Qi (S := Unit) (fun r _ => ∃ x, pm_fnd sc gl nu ct a b d3 x ∧ r = px_ix x) (pw_B D (fun _ => pm_W m0 ad cI cd mt mf fd ct sc gl nu si wh pl sm ms mg mn mk md) (fun _ => [(cI, .int)]) A) A) #[Value.ref m0, Value.int a, Value.int b, Value.int d3] s 0 0 A) (F0 m 6 ls []) := by
    intro n
    induction n with
    | zero => intros; omega
    | succ n ih =>
      intro i x hi hn hx9 H locs w ls hl
      refine lv_iload hx hb dM_find_6 (lv_at hl 0 rfl) ?_
      refine lv_aload_n hx hb dM_find_8 rfl (lv_at hl 2 rfl) ?_
      refine pw_get S w pm_FM 0 rfl 4 (by decide) eM_43 (v := .int (nI ct)) rfl dM_find_9 ?_
      refine lv_icmp_ge (tgt := 63) hx hb dM_find_12 (by decide) (fun h1 => ?_) (fun h1 => ?_)
      · have e9 : i = ct := by have := (nI_leI (a := ct) (b := i) (by omega) (by omega)).mp h1; omega
        subst e9
        refine lv_iload hx hb dM_find_63 (lv_at hl 1 rfl) ?_
        exact pw_reti S hr hlk () w ⟨x, hx9, rfl⟩ (by decide) (by decide) dM_find_65
      · have hlt : i < ct := Nat.lt_of_not_le (fun q => h1 ((nI_leI (a := ct) (b := i) (by omega) (by omega)).mpr q))
        refine lv_aload_n hx hb dM_find_15 rfl (lv_at hl 2 rfl) ?_
        refine pw_get S w pm_FM 0 rfl 5 (by decide) eM_13 (v := .ref (ad 1)) rfl dM_find_16 ?_
        refine lv_iload hx hb dM_find_19 (lv_at hl 0 rfl) ?_
        refine pw_iald S w 2 0 (a := ad 1) (f := sc) (n := 5) (cA := cI) rfl rfl (j := i) (by omega) (by decide) dM_find_21 ?_
        refine lv_iload_n hx hb dM_find_22 rfl (lv_at hl 3 rfl) ?_
        refine lv_icmp_ne (tgt := 53) hx hb dM_find_23 (by decide) (fun h2 => ?_) (fun h2 => ?_)
        · refine lv_iload hx hb dM_find_53 (lv_at hl 1 rfl) ?_
          refine lv_istore (lv' := [(4, .int (px_ix x)), (5, .int (nI i)), (0, .ref m0), (1, .int a), (2, .int b), (3, .int d3)]) hx hb dM_find_55 hl (by decide) rfl (fun ls hl => ?_)
          refine lv_iinc (v := nI (i + 1)) (lv' := [(5, .int (nI (i + 1))), (4, .int (px_ix x)), (0, .ref m0), (1, .int a), (2, .int b), (3, .int d3)]) hx hb dM_find_57 hl (k := 1) rfl (nI_1 i) (by decide) rfl (fun ls hl => ?_)
          refine lv_goto (tgt := 6) hx hb dM_find_60 (by decide) ?_
          exact ih (i + 1) x (by omega) (by omega) (pm_fnd_n hx9 (fun q => h2 q.1)) H locs w ls hl
        · refine lv_aload_n hx hb dM_find_26 rfl (lv_at hl 2 rfl) ?_
          refine pw_get S w pm_FM 0 rfl 6 (by decide) eM_16 (v := .ref (ad 2)) rfl dM_find_27 ?_
          refine lv_iload hx hb dM_find_30 (lv_at hl 0 rfl) ?_
          refine pw_iald S w 3 0 (a := ad 2) (f := gl) (n := 5) (cA := cI) rfl rfl (j := i) (by omega) (by decide) dM_find_32 ?_
          refine lv_iload_n hx hb dM_find_33 rfl (lv_at hl 4 rfl) ?_
          refine lv_icmp_ne (tgt := 53) hx hb dM_find_34 (by decide) (fun h3 => ?_) (fun h3 => ?_)
          · refine lv_iload hx hb dM_find_53 (lv_at hl 1 rfl) ?_
            refine lv_istore (lv' := [(4, .int (px_ix x)), (5, .int (nI i)), (0, .ref m0), (1, .int a), (2, .int b), (3, .int d3)]) hx hb dM_find_55 hl (by decide) rfl (fun ls hl => ?_)
            refine lv_iinc (v := nI (i + 1)) (lv' := [(5, .int (nI (i + 1))), (4, .int (px_ix x)), (0, .ref m0), (1, .int a), (2, .int b), (3, .int d3)]) hx hb dM_find_57 hl (k := 1) rfl (nI_1 i) (by decide) rfl (fun ls hl => ?_)
            refine lv_goto (tgt := 6) hx hb dM_find_60 (by decide) ?_
            exact ih (i + 1) x (by omega) (by omega) (pm_fnd_n hx9 (fun q => h3 q.2.1)) H locs w ls hl
          · refine lv_aload_n hx hb dM_find_37 rfl (lv_at hl 2 rfl) ?_
            refine pw_get S w pm_FM 0 rfl 7 (by decide) eM_19 (v := .ref (ad 3)) rfl dM_find_38 ?_
            refine lv_iload hx hb dM_find_41 (lv_at hl 0 rfl) ?_
            refine pw_iald S w 4 0 (a := ad 3) (f := nu) (n := 5) (cA := cI) rfl rfl (j := i) (by omega) (by decide) dM_find_43 ?_
            refine lv_iload_n hx hb dM_find_44 rfl (lv_at hl 5 rfl) ?_
            refine lv_icmp_ne (tgt := 53) hx hb dM_find_45 (by decide) (fun h4 => ?_) (fun h4 => ?_)
            · refine lv_iload hx hb dM_find_53 (lv_at hl 1 rfl) ?_
              refine lv_istore (lv' := [(4, .int (px_ix x)), (5, .int (nI i)), (0, .ref m0), (1, .int a), (2, .int b), (3, .int d3)]) hx hb dM_find_55 hl (by decide) rfl (fun ls hl => ?_)
              refine lv_iinc (v := nI (i + 1)) (lv' := [(5, .int (nI (i + 1))), (4, .int (px_ix x)), (0, .ref m0), (1, .int a), (2, .int b), (3, .int d3)]) hx hb dM_find_57 hl (k := 1) rfl (nI_1 i) (by decide) rfl (fun ls hl => ?_)
              refine lv_goto (tgt := 6) hx hb dM_find_60 (by decide) ?_
              exact ih (i + 1) x (by omega) (by omega) (pm_fnd_n hx9 (fun q => h4 q.2.2)) H locs w ls hl
            · refine lv_iload hx hb dM_find_48 (lv_at hl 0 rfl) ?_
              refine lv_goto (tgt := 55) hx hb dM_find_50 (by decide) ?_
              refine pw_top (y := px_ix (some i)) rfl ?_
              refine lv_istore (lv' := [(4, .int (px_ix (some i))), (5, .int (nI i)), (0, .ref m0), (1, .int a), (2, .int b), (3, .int d3)]) hx hb dM_find_55 hl (by decide) rfl (fun ls hl => ?_)
              refine lv_iinc (v := nI (i + 1)) (lv' := [(5, .int (nI (i + 1))), (4, .int (px_ix (some i))), (0, .ref m0), (1, .int a), (2, .int b), (3, .int d3)]) hx hb dM_find_57 hl (k := 1) rfl (nI_1 i) (by decide) rfl (fun ls hl => ?_)
              refine lv_goto (tgt := 6) hx hb dM_find_60 (by decide) ?_
              exact ih (i + 1) (some i) (by omega) (by omega) (pm_fnd_y (x := none) ⟨h2, h3, h4⟩) H locs w ls hl
  exact loop (ct + 1) 0 none (by omega) (by omega) (fun q hq => absurd hq (by omega)) _ _ w ls hl

set_option maxHeartbeats 4000000 in
set_option maxRecDepth 100000 in
/-- the reference: forget -/
theorem pm_c_forget (l : Launch) (D : va_G) (m0 : Nat) (ad : Nat → Nat) (cI : ClassId) (cd : Int32) (mt : Nat) (mf : Nat) (fd : Nat → Int32) (ct : Nat) (sc : Nat → Int32) (gl : Nat → Int32) (nu : Nat → Int32) (si : Nat → Int32) (wh : Nat → Int32) (pl : Nat → Int32) (sm : Int32) (ms : Int32) (mg : Int32) (mn : Int32) (mk : Int32) (md : Nat → Int32) (sz : Nat) (k : Nat) (hk : k < ct) (hct : ct ≤ 4) : pw_Mv l yM_forget cM_forget 4 ({ frames := 0, cells := 0, slots := 0, locals := 0 }) D [(cI, .int)] [.ref m0, .int (nI k)] (pm_W m0 ad cI cd mt mf fd ct sc gl nu si wh pl sm ms mg mn mk md) sz (σ := Unit) (fun _ => True) (fun _ => pm_W m0 ad cI cd mt mf fd (ct - 1) (pm_s1 sc k (ct - 1)) (pm_s1 gl k (ct - 1)) (pm_s1 nu k (ct - 1)) (pm_s1 si k (ct - 1)) (pm_s1 wh k (ct - 1)) (pm_s2 pl (1480 * k) (1480 * (ct - 1))) sm ms mg mn mk md) (fun _ => [(cI, .int)]) 0 0 := by
  refine pw_openV (by decide) (Nat.le_of_ble_eq_true rfl) ?_
  intro p e s m below meth c ls S hr hlk hnm hl hsz w
  obtain ⟨hx, hb, hml, hown, hts⟩ := id S
  have hl : lv_has ls 4 [(0, .ref m0), (1, .int (nI k))] := hl
  generalize va_A (pm_W m0 ad cI cd mt mf fd ct sc gl nu si wh pl sm ms mg mn mk md) sz = A at w ⊢
  refine lv_aload_n hx hb dM_forget_0 rfl (lv_at hl 0 rfl) ?_
  refine lv_dup hx hb dM_forget_1 rfl ?_
  refine pw_get S w pm_FM 0 rfl 4 (by decide) eM_43 (v := .int (nI ct)) rfl dM_forget_2 ?_
  refine lv_iconst (v := 1) hx hb dM_forget_5 (by decide) ?_
  refine lv_isub hx hb dM_forget_6 ?_
  refine pw_top (y := nI (ct - 1)) (px_pred (by omega)) ?_
  refine pw_put S w pm_FM 0 (fs := [.int cd, .int (nI mt), .int (nI mf), .ref (ad 0), .int (nI ct), .ref (ad 1), .ref (ad 2), .ref (ad 3), .ref (ad 4), .ref (ad 5), .ref (ad 6), .int sm, .int ms, .int mg, .int mn, .int mk, .ref (ad 7)]) rfl 4 (by decide) eM_43 rfl (v := .int (nI (ct - 1))) rfl rfl (Nat.le_of_ble_eq_true rfl) dM_forget_7 (fun H locs w => ?_)
  have w : pw_S D [(cI, .int)] A (pm_W m0 ad cI cd mt mf fd (ct - 1) sc gl nu si wh pl sm ms mg mn mk md) s _ _ := w
  refine lv_iload_n hx hb dM_forget_10 rfl (lv_at hl 1 rfl) ?_
  refine lv_istore_n (lv' := [(2, .int (nI k)), (0, .ref m0), (1, .int (nI k))]) hx hb dM_forget_11 rfl hl (by decide) rfl (fun ls hl => ?_)
  have loop : ∀ (n : Nat) (i : Nat), k ≤ i → i ≤ ct - 1 → ct - 1 < i + n → ∀ (H : Heap) (locs : List Loc), pw_S D [(cI, .int)] A (pm_W m0 ad cI cd mt mf fd (ct - 1) (pm_s1 sc k i) (pm_s1 gl k i) (pm_s1 nu k i) (pm_s1 si k i) (pm_s1 wh k i) (pm_s2 pl (1480 * k) (1480 * i)) sm ms mg mn mk md) s H locs → ∀ (ls : Array Slot), lv_has ls 4 [(2, .int (nI i)), (0, .ref m0), (1, .int (nI k))] → W p l e ({ frames := 0, cells := 0, slots := 0, locals := 0 }) s m #[Value.ref m0, Value.int (nI k)] below meth c H locs 0 0 (MQ below (va_Qv (S := Unit) (fun _ => True) (pw_B D (fun _ => pm_W m0 ad cI cd mt mf fd (ct - 1) (pm_s1 sc k (ct - 1)) (pm_s1 gl k (ct - 1)) (pm_s1 nu k (ct - 1)) (pm_s1 si k (ct - 1)) (pm_s1 wh k (ct - 1)) (pm_s2 pl (1480 * k) (1480 * (ct - 1))) sm ms mg mn mk md) (fun _ => [(cI, .int)]) A) A) #[Value.ref m0, Value.int (nI k)] s 0 0 A) (F0 m 12 ls []) := by
    intro n
    induction n with
    | zero => intros; omega
    | succ n ih =>
      intro i hki hi hn H locs w ls hl
      refine lv_iload_n hx hb dM_forget_12 rfl (lv_at hl 0 rfl) ?_
      refine lv_aload_n hx hb dM_forget_13 rfl (lv_at hl 1 rfl) ?_
      refine pw_get S w pm_FM 0 rfl 4 (by decide) eM_43 (v := .int (nI (ct - 1))) rfl dM_forget_14 ?_
      refine lv_icmp_ge (tgt := 139) hx hb dM_forget_17 (by decide) (fun h1 => ?_) (fun h1 => ?_)
      · have e9 : i = ct - 1 := by have := (nI_leI (a := ct - 1) (b := i) (by omega) (by omega)).mp h1; omega
        subst e9
        exact pw_retv S hr hlk () w trivial (by decide) (by decide) dM_forget_139
      · have hlt : i < ct - 1 := Nat.lt_of_not_le (fun q => h1 ((nI_leI (a := ct - 1) (b := i) (by omega) (by omega)).mpr q))
        refine lv_aload_n hx hb dM_forget_20 rfl (lv_at hl 1 rfl) ?_
        refine pw_get S w pm_FM 0 rfl 5 (by decide) eM_13 (v := .ref (ad 1)) rfl dM_forget_21 ?_
        refine lv_iload_n hx hb dM_forget_24 rfl (lv_at hl 0 rfl) ?_
        refine lv_aload_n hx hb dM_forget_25 rfl (lv_at hl 1 rfl) ?_
        refine pw_get S w pm_FM 0 rfl 5 (by decide) eM_13 (v := .ref (ad 1)) rfl dM_forget_26 ?_
        refine lv_iload_n hx hb dM_forget_29 rfl (lv_at hl 0 rfl) ?_
        refine lv_iconst (v := 1) hx hb dM_forget_30 (by decide) ?_
        refine lv_iadd hx hb dM_forget_31 ?_
        refine pw_top (y := nI (i + 1)) (nI_1 i) ?_
        refine pw_iald S w 2 0 (a := ad 1) (f := pm_s1 sc k i) (n := 5) (cA := cI) rfl rfl (j := i + 1) (by omega) (by decide) dM_forget_32 ?_
        refine pw_iast S w 2 0 (a := ad 1) (f := pm_s1 sc k i) (n := 5) (cA := cI) rfl rfl (j := i) (by omega) (by decide) dM_forget_33 (fun H locs w => ?_)
        have w : pw_S D [(cI, .int)] A (pm_W m0 ad cI cd mt mf fd (ct - 1) (upd (pm_s1 sc k i) i ((pm_s1 sc k i) (i + 1))) (pm_s1 gl k i) (pm_s1 nu k i) (pm_s1 si k i) (pm_s1 wh k i) (pm_s2 pl (1480 * k) (1480 * i)) sm ms mg mn mk md) s _ _ := w
        have w : pw_S D [(cI, .int)] A (pm_W m0 ad cI cd mt mf fd (ct - 1) (pm_s1 sc k (i + 1)) (pm_s1 gl k i) (pm_s1 nu k i) (pm_s1 si k i) (pm_s1 wh k i) (pm_s2 pl (1480 * k) (1480 * i)) sm ms mg mn mk md) s _ _ := w.to (by rw [pm_s1_s sc hki])
        refine lv_aload_n hx hb dM_forget_34 rfl (lv_at hl 1 rfl) ?_
        refine pw_get S w pm_FM 0 rfl 6 (by decide) eM_16 (v := .ref (ad 2)) rfl dM_forget_35 ?_
        refine lv_iload_n hx hb dM_forget_38 rfl (lv_at hl 0 rfl) ?_
        refine lv_aload_n hx hb dM_forget_39 rfl (lv_at hl 1 rfl) ?_
        refine pw_get S w pm_FM 0 rfl 6 (by decide) eM_16 (v := .ref (ad 2)) rfl dM_forget_40 ?_
        refine lv_iload_n hx hb dM_forget_43 rfl (lv_at hl 0 rfl) ?_
        refine lv_iconst (v := 1) hx hb dM_forget_44 (by decide) ?_
        refine lv_iadd hx hb dM_forget_45 ?_
        refine pw_top (y := nI (i + 1)) (nI_1 i) ?_
        refine pw_iald S w 3 0 (a := ad 2) (f := pm_s1 gl k i) (n := 5) (cA := cI) rfl rfl (j := i + 1) (by omega) (by decide) dM_forget_46 ?_
        refine pw_iast S w 3 0 (a := ad 2) (f := pm_s1 gl k i) (n := 5) (cA := cI) rfl rfl (j := i) (by omega) (by decide) dM_forget_47 (fun H locs w => ?_)
        have w : pw_S D [(cI, .int)] A (pm_W m0 ad cI cd mt mf fd (ct - 1) (pm_s1 sc k (i + 1)) (upd (pm_s1 gl k i) i ((pm_s1 gl k i) (i + 1))) (pm_s1 nu k i) (pm_s1 si k i) (pm_s1 wh k i) (pm_s2 pl (1480 * k) (1480 * i)) sm ms mg mn mk md) s _ _ := w
        have w : pw_S D [(cI, .int)] A (pm_W m0 ad cI cd mt mf fd (ct - 1) (pm_s1 sc k (i + 1)) (pm_s1 gl k (i + 1)) (pm_s1 nu k i) (pm_s1 si k i) (pm_s1 wh k i) (pm_s2 pl (1480 * k) (1480 * i)) sm ms mg mn mk md) s _ _ := w.to (by rw [pm_s1_s gl hki])
        refine lv_aload_n hx hb dM_forget_48 rfl (lv_at hl 1 rfl) ?_
        refine pw_get S w pm_FM 0 rfl 7 (by decide) eM_19 (v := .ref (ad 3)) rfl dM_forget_49 ?_
        refine lv_iload_n hx hb dM_forget_52 rfl (lv_at hl 0 rfl) ?_
        refine lv_aload_n hx hb dM_forget_53 rfl (lv_at hl 1 rfl) ?_
        refine pw_get S w pm_FM 0 rfl 7 (by decide) eM_19 (v := .ref (ad 3)) rfl dM_forget_54 ?_
        refine lv_iload_n hx hb dM_forget_57 rfl (lv_at hl 0 rfl) ?_
        refine lv_iconst (v := 1) hx hb dM_forget_58 (by decide) ?_
        refine lv_iadd hx hb dM_forget_59 ?_
        refine pw_top (y := nI (i + 1)) (nI_1 i) ?_
        refine pw_iald S w 4 0 (a := ad 3) (f := pm_s1 nu k i) (n := 5) (cA := cI) rfl rfl (j := i + 1) (by omega) (by decide) dM_forget_60 ?_
        refine pw_iast S w 4 0 (a := ad 3) (f := pm_s1 nu k i) (n := 5) (cA := cI) rfl rfl (j := i) (by omega) (by decide) dM_forget_61 (fun H locs w => ?_)
        have w : pw_S D [(cI, .int)] A (pm_W m0 ad cI cd mt mf fd (ct - 1) (pm_s1 sc k (i + 1)) (pm_s1 gl k (i + 1)) (upd (pm_s1 nu k i) i ((pm_s1 nu k i) (i + 1))) (pm_s1 si k i) (pm_s1 wh k i) (pm_s2 pl (1480 * k) (1480 * i)) sm ms mg mn mk md) s _ _ := w
        have w : pw_S D [(cI, .int)] A (pm_W m0 ad cI cd mt mf fd (ct - 1) (pm_s1 sc k (i + 1)) (pm_s1 gl k (i + 1)) (pm_s1 nu k (i + 1)) (pm_s1 si k i) (pm_s1 wh k i) (pm_s2 pl (1480 * k) (1480 * i)) sm ms mg mn mk md) s _ _ := w.to (by rw [pm_s1_s nu hki])
        refine lv_aload_n hx hb dM_forget_62 rfl (lv_at hl 1 rfl) ?_
        refine pw_get S w pm_FM 0 rfl 8 (by decide) eM_22 (v := .ref (ad 4)) rfl dM_forget_63 ?_
        refine lv_iload_n hx hb dM_forget_66 rfl (lv_at hl 0 rfl) ?_
        refine lv_aload_n hx hb dM_forget_67 rfl (lv_at hl 1 rfl) ?_
        refine pw_get S w pm_FM 0 rfl 8 (by decide) eM_22 (v := .ref (ad 4)) rfl dM_forget_68 ?_
        refine lv_iload_n hx hb dM_forget_71 rfl (lv_at hl 0 rfl) ?_
        refine lv_iconst (v := 1) hx hb dM_forget_72 (by decide) ?_
        refine lv_iadd hx hb dM_forget_73 ?_
        refine pw_top (y := nI (i + 1)) (nI_1 i) ?_
        refine pw_iald S w 5 0 (a := ad 4) (f := pm_s1 si k i) (n := 5) (cA := cI) rfl rfl (j := i + 1) (by omega) (by decide) dM_forget_74 ?_
        refine pw_iast S w 5 0 (a := ad 4) (f := pm_s1 si k i) (n := 5) (cA := cI) rfl rfl (j := i) (by omega) (by decide) dM_forget_75 (fun H locs w => ?_)
        have w : pw_S D [(cI, .int)] A (pm_W m0 ad cI cd mt mf fd (ct - 1) (pm_s1 sc k (i + 1)) (pm_s1 gl k (i + 1)) (pm_s1 nu k (i + 1)) (upd (pm_s1 si k i) i ((pm_s1 si k i) (i + 1))) (pm_s1 wh k i) (pm_s2 pl (1480 * k) (1480 * i)) sm ms mg mn mk md) s _ _ := w
        have w : pw_S D [(cI, .int)] A (pm_W m0 ad cI cd mt mf fd (ct - 1) (pm_s1 sc k (i + 1)) (pm_s1 gl k (i + 1)) (pm_s1 nu k (i + 1)) (pm_s1 si k (i + 1)) (pm_s1 wh k i) (pm_s2 pl (1480 * k) (1480 * i)) sm ms mg mn mk md) s _ _ := w.to (by rw [pm_s1_s si hki])
        refine lv_aload_n hx hb dM_forget_76 rfl (lv_at hl 1 rfl) ?_
        refine pw_get S w pm_FM 0 rfl 9 (by decide) eM_25 (v := .ref (ad 5)) rfl dM_forget_77 ?_
        refine lv_iload_n hx hb dM_forget_80 rfl (lv_at hl 0 rfl) ?_
        refine lv_aload_n hx hb dM_forget_81 rfl (lv_at hl 1 rfl) ?_
        refine pw_get S w pm_FM 0 rfl 9 (by decide) eM_25 (v := .ref (ad 5)) rfl dM_forget_82 ?_
        refine lv_iload_n hx hb dM_forget_85 rfl (lv_at hl 0 rfl) ?_
        refine lv_iconst (v := 1) hx hb dM_forget_86 (by decide) ?_
        refine lv_iadd hx hb dM_forget_87 ?_
        refine pw_top (y := nI (i + 1)) (nI_1 i) ?_
        refine pw_iald S w 6 0 (a := ad 5) (f := pm_s1 wh k i) (n := 5) (cA := cI) rfl rfl (j := i + 1) (by omega) (by decide) dM_forget_88 ?_
        refine pw_iast S w 6 0 (a := ad 5) (f := pm_s1 wh k i) (n := 5) (cA := cI) rfl rfl (j := i) (by omega) (by decide) dM_forget_89 (fun H locs w => ?_)
        have w : pw_S D [(cI, .int)] A (pm_W m0 ad cI cd mt mf fd (ct - 1) (pm_s1 sc k (i + 1)) (pm_s1 gl k (i + 1)) (pm_s1 nu k (i + 1)) (pm_s1 si k (i + 1)) (upd (pm_s1 wh k i) i ((pm_s1 wh k i) (i + 1))) (pm_s2 pl (1480 * k) (1480 * i)) sm ms mg mn mk md) s _ _ := w
        have w : pw_S D [(cI, .int)] A (pm_W m0 ad cI cd mt mf fd (ct - 1) (pm_s1 sc k (i + 1)) (pm_s1 gl k (i + 1)) (pm_s1 nu k (i + 1)) (pm_s1 si k (i + 1)) (pm_s1 wh k (i + 1)) (pm_s2 pl (1480 * k) (1480 * i)) sm ms mg mn mk md) s _ _ := w.to (by rw [pm_s1_s wh hki])
        refine lv_iconst (v := 0) hx hb dM_forget_90 (by decide) ?_
        refine lv_istore_n (lv' := [(3, .int 0), (2, .int (nI i)), (0, .ref m0), (1, .int (nI k))]) hx hb dM_forget_91 rfl hl (by decide) rfl (fun ls hl => ?_)
        have inner : ∀ (n9 j : Nat), j ≤ 1480 → 1480 < j + n9 → ∀ (H : Heap) (locs : List Loc), pw_S D [(cI, .int)] A (pm_W m0 ad cI cd mt mf fd (ct - 1) (pm_s1 sc k (i + 1)) (pm_s1 gl k (i + 1)) (pm_s1 nu k (i + 1)) (pm_s1 si k (i + 1)) (pm_s1 wh k (i + 1)) (pm_s2 pl (1480 * k) (1480 * i + j)) sm ms mg mn mk md) s H locs → ∀ (ls : Array Slot), lv_has ls 4 [(3, .int (nI j)), (2, .int (nI i)), (0, .ref m0), (1, .int (nI k))] → W p l e ({ frames := 0, cells := 0, slots := 0, locals := 0 }) s m #[Value.ref m0, Value.int (nI k)] below meth c H locs 0 0 (MQ below (va_Qv (S := Unit) (fun _ => True) (pw_B D (fun _ => pm_W m0 ad cI cd mt mf fd (ct - 1) (pm_s1 sc k (ct - 1)) (pm_s1 gl k (ct - 1)) (pm_s1 nu k (ct - 1)) (pm_s1 si k (ct - 1)) (pm_s1 wh k (ct - 1)) (pm_s2 pl (1480 * k) (1480 * (ct - 1))) sm ms mg mn mk md) (fun _ => [(cI, .int)]) A) A) #[Value.ref m0, Value.int (nI k)] s 0 0 A) (F0 m 92 ls []) := by
          intro n9
          induction n9 with
          | zero => intros; omega
          | succ n9 ih9 =>
            intro j hj hn9 H locs w ls hl
            refine lv_iload_n hx hb dM_forget_92 rfl (lv_at hl 0 rfl) ?_
            refine lv_sipush (v := 1480) hx hb dM_forget_93 (by decide) ?_
            refine lv_icmp_ge (tgt := 133) hx hb dM_forget_96 (by decide) (fun h2 => ?_) (fun h2 => ?_)
            · have e9 : j = 1480 := by have := (nI_leI (a := 1480) (b := j) (by decide) (by omega)).mp h2; omega
              subst e9
              refine lv_iinc (v := nI (i + 1)) (lv' := [(2, .int (nI (i + 1))), (3, .int (nI 1480)), (0, .ref m0), (1, .int (nI k))]) hx hb dM_forget_133 hl (k := 1) rfl (nI_1 i) (by decide) rfl (fun ls hl => ?_)
              refine lv_goto (tgt := 12) hx hb dM_forget_136 (by decide) ?_
              exact ih (i + 1) (by omega) (by omega) (by omega) H locs (w.to (by rw [show 1480 * i + 1480 = 1480 * (i + 1) by omega])) ls (lv_sub hl [0, 2, 3] rfl)
            · have hlt2 : j < 1480 := Nat.lt_of_not_le (fun q => h2 ((nI_leI (a := 1480) (b := j) (by decide) (by omega)).mpr q))
              refine lv_aload_n hx hb dM_forget_99 rfl (lv_at hl 2 rfl) ?_
              refine pw_get S w pm_FM 0 rfl 10 (by decide) eM_28 (v := .ref (ad 6)) rfl dM_forget_100 ?_
              refine lv_sipush (v := 1480) hx hb dM_forget_103 (by decide) ?_
              refine lv_iload_n hx hb dM_forget_106 rfl (lv_at hl 1 rfl) ?_
              refine lv_imul hx hb dM_forget_107 ?_
              refine lv_iload_n hx hb dM_forget_108 rfl (lv_at hl 0 rfl) ?_
              refine lv_iadd hx hb dM_forget_109 ?_
              refine pw_top (y := nI (1480 * i + j)) (pm_ix i j) ?_
              refine lv_aload_n hx hb dM_forget_110 rfl (lv_at hl 2 rfl) ?_
              refine pw_get S w pm_FM 0 rfl 10 (by decide) eM_28 (v := .ref (ad 6)) rfl dM_forget_111 ?_
              refine lv_sipush (v := 1480) hx hb dM_forget_114 (by decide) ?_
              refine lv_iload_n hx hb dM_forget_117 rfl (lv_at hl 1 rfl) ?_
              refine lv_imul hx hb dM_forget_118 ?_
              refine lv_sipush (v := 1480) hx hb dM_forget_119 (by decide) ?_
              refine lv_iadd hx hb dM_forget_122 ?_
              refine lv_iload_n hx hb dM_forget_123 rfl (lv_at hl 0 rfl) ?_
              refine lv_iadd hx hb dM_forget_124 ?_
              refine pw_top (y := nI (1480 * i + 1480 + j)) (pm_ix2 i j) ?_
              refine pw_iald S w 7 0 (a := ad 6) (f := pm_s2 pl (1480 * k) (1480 * i + j)) (n := 7400) (cA := cI) rfl rfl (j := 1480 * i + 1480 + j) (by omega) (by decide) dM_forget_125 ?_
              refine pw_iast S w 7 0 (a := ad 6) (f := pm_s2 pl (1480 * k) (1480 * i + j)) (n := 7400) (cA := cI) rfl rfl (j := 1480 * i + j) (by omega) (by decide) dM_forget_126 (fun H locs w => ?_)
              have w : pw_S D [(cI, .int)] A (pm_W m0 ad cI cd mt mf fd (ct - 1) (pm_s1 sc k (i + 1)) (pm_s1 gl k (i + 1)) (pm_s1 nu k (i + 1)) (pm_s1 si k (i + 1)) (pm_s1 wh k (i + 1)) (upd (pm_s2 pl (1480 * k) (1480 * i + j)) (1480 * i + j) ((pm_s2 pl (1480 * k) (1480 * i + j)) (1480 * i + 1480 + j))) sm ms mg mn mk md) s _ _ := w
              have w : pw_S D [(cI, .int)] A (pm_W m0 ad cI cd mt mf fd (ct - 1) (pm_s1 sc k (i + 1)) (pm_s1 gl k (i + 1)) (pm_s1 nu k (i + 1)) (pm_s1 si k (i + 1)) (pm_s1 wh k (i + 1)) (pm_s2 pl (1480 * k) (1480 * i + (j + 1))) sm ms mg mn mk md) s _ _ := w.to (by rw [show 1480 * i + 1480 + j = 1480 * i + j + 1480 by omega, pm_s2_s pl (show 1480 * k ≤ 1480 * i + j by omega), show 1480 * i + j + 1 = 1480 * i + (j + 1) by omega])
              refine lv_iinc (v := nI (j + 1)) (lv' := [(3, .int (nI (j + 1))), (2, .int (nI i)), (0, .ref m0), (1, .int (nI k))]) hx hb dM_forget_127 hl (k := 0) rfl (nI_1 j) (by decide) rfl (fun ls hl => ?_)
              refine lv_goto (tgt := 92) hx hb dM_forget_130 (by decide) ?_
              exact ih9 (j + 1) (by omega) (by omega) H locs w ls hl
        exact inner 1481 0 (by omega) (by omega) _ _ w ls hl
  exact loop ct k (by omega) (by omega) (by omega) _ _ (w.to (by rw [pm_s1_0, pm_s1_0, pm_s1_0, pm_s1_0, pm_s1_0, pm_s2_0])) ls hl

set_option maxHeartbeats 4000000 in
set_option maxRecDepth 100000 in
/-- the reference: lacks -/
theorem pm_c_lacks (l : Launch) (D : va_G) (m0 : Nat) (ad : Nat → Nat) (cI : ClassId) (cd : Int32) (mt : Nat) (mf : Nat) (fd : Nat → Int32) (ct : Nat) (sc : Nat → Int32) (gl : Nat → Int32) (nu : Nat → Int32) (si : Nat → Int32) (wh : Nat → Int32) (pl : Nat → Int32) (sm : Int32) (ms : Int32) (mg : Int32) (mn : Int32) (mk : Int32) (md : Nat → Int32) (sz : Nat) (k : Nat) (hk : k < 5) (wn : Nat) (hw : wh k = nI wn) (hwn : wn ≤ 1480) : pw_Mi l yM_lacks cM_lacks 4 .int ({ frames := 0, cells := 0, slots := 0, locals := 0 }) D [(cI, .int)] [.ref m0, .int (nI k)] (pm_W m0 ad cI cd mt mf fd ct sc gl nu si wh pl sm ms mg mn mk md) sz (σ := Unit) (fun r _ => r = nI (pm_c (fun i => pl (1480 * k + i)) wn)) (fun _ => pm_W m0 ad cI cd mt mf fd ct sc gl nu si wh pl sm ms mg mn mk md) 0 0 := by
  refine pw_openI (by decide) (Nat.le_of_ble_eq_true rfl) ?_
  intro p e s m below meth c ls S hr hlk hl hsz w
  obtain ⟨hx, hb, hml, hown, hts⟩ := id S
  have hl : lv_has ls 4 [(0, .ref m0), (1, .int (nI k))] := hl
  generalize va_A (pm_W m0 ad cI cd mt mf fd ct sc gl nu si wh pl sm ms mg mn mk md) sz = A at w ⊢
  refine lv_iconst (v := 0) hx hb dM_lacks_0 (by decide) ?_
  refine lv_istore_n (lv' := [(2, .int 0), (0, .ref m0), (1, .int (nI k))]) hx hb dM_lacks_1 rfl hl (by decide) rfl (fun ls hl => ?_)
  refine lv_iconst (v := 0) hx hb dM_lacks_2 (by decide) ?_
  refine lv_istore_n (lv' := [(3, .int 0), (2, .int 0), (0, .ref m0), (1, .int (nI k))]) hx hb dM_lacks_3 rfl hl (by decide) rfl (fun ls hl => ?_)
  have loop : ∀ (n : Nat) (i : Nat), i ≤ wn → wn < i + n → ∀ (H : Heap) (locs : List Loc), pw_S D [(cI, .int)] A (pm_W m0 ad cI cd mt mf fd ct sc gl nu si wh pl sm ms mg mn mk md) s H locs → ∀ (ls : Array Slot), lv_has ls 4 [(3, .int (nI i)), (2, .int (nI (pm_c (fun i => pl (1480 * k + i)) i))), (0, .ref m0), (1, .int (nI k))] → W p l e ({ frames := 0, cells := 0, slots := 0, locals := 0 }) s m #[Value.ref m0, Value.int (nI k)] below meth c H locs 0 0 (MQ below (va_Qi (S := Unit) (fun r _ => r = nI (pm_c (fun i => pl (1480 * k + i)) wn)) (pw_B D (fun _ => pm_W m0 ad cI cd mt mf fd ct sc gl nu si wh pl sm ms mg mn mk md) (fun _ => [(cI, .int)]) A) A) #[Value.ref m0, Value.int (nI k)] s 0 0 A) (F0 m 4 ls []) := by
    intro n
    induction n with
    | zero => intros; omega
    | succ n ih =>
      intro i hi hn H locs w ls hl
      refine lv_iload_n hx hb dM_lacks_4 rfl (lv_at hl 0 rfl) ?_
      refine lv_aload_n hx hb dM_lacks_5 rfl (lv_at hl 2 rfl) ?_
      refine pw_get S w pm_FM 0 rfl 9 (by decide) eM_25 (v := .ref (ad 5)) rfl dM_lacks_6 ?_
      refine lv_iload_n hx hb dM_lacks_9 rfl (lv_at hl 3 rfl) ?_
      refine pw_iald S w 6 0 (a := ad 5) (f := wh) (n := 5) (cA := cI) rfl rfl (j := k) (by omega) (by decide) dM_lacks_10 ?_
      refine pw_top (y := nI wn) hw ?_
      refine lv_icmp_ge (tgt := 43) hx hb dM_lacks_11 (by decide) (fun h1 => ?_) (fun h1 => ?_)
      · have e9 : i = wn := by have := (nI_leI (a := wn) (b := i) (by omega) (by omega)).mp h1; omega
        subst e9
        refine lv_iload_n hx hb dM_lacks_43 rfl (lv_at hl 1 rfl) ?_
        exact pw_reti S hr hlk () w rfl (by decide) (by decide) dM_lacks_44
      · have hlt : i < wn := Nat.lt_of_not_le (fun q => h1 ((nI_leI (a := wn) (b := i) (by omega) (by omega)).mpr q))
        refine lv_iload_n hx hb dM_lacks_14 rfl (lv_at hl 1 rfl) ?_
        refine lv_aload_n hx hb dM_lacks_15 rfl (lv_at hl 2 rfl) ?_
        refine pw_get S w pm_FM 0 rfl 10 (by decide) eM_28 (v := .ref (ad 6)) rfl dM_lacks_16 ?_
        refine lv_sipush (v := 1480) hx hb dM_lacks_19 (by decide) ?_
        refine lv_iload_n hx hb dM_lacks_22 rfl (lv_at hl 3 rfl) ?_
        refine lv_imul hx hb dM_lacks_23 ?_
        refine lv_iload_n hx hb dM_lacks_24 rfl (lv_at hl 0 rfl) ?_
        refine lv_iadd hx hb dM_lacks_25 ?_
        refine pw_top (y := nI (1480 * k + i)) (pm_ix k i) ?_
        refine pw_iald S w 7 0 (a := ad 6) (f := pl) (n := 7400) (cA := cI) rfl rfl (j := 1480 * k + i) (by omega) (by decide) dM_lacks_26 ?_
        refine lv_if_ge (tgt := 34) hx hb dM_lacks_27 (by decide) (fun h2 => ?_) (fun h2 => ?_)
        · refine lv_iconst (v := 0) hx hb dM_lacks_34 (by decide) ?_
          refine lv_iadd hx hb dM_lacks_35 ?_
          refine pw_top (y := nI (pm_c (fun i => pl (1480 * k + i)) (i + 1))) (show nI (pm_c (fun i => pl (1480 * k + i)) i) + 0 = nI (pm_c (fun i => pl (1480 * k + i)) i + _) by rw [if_neg (pm_nn h2)]; exact nI_add _ 0) ?_
          refine lv_istore_n (lv' := [(2, .int (nI (pm_c (fun i => pl (1480 * k + i)) (i + 1)))), (3, .int (nI i)), (0, .ref m0), (1, .int (nI k))]) hx hb dM_lacks_36 rfl hl (by decide) rfl (fun ls hl => ?_)
          refine lv_iinc (v := nI (i + 1)) (lv' := [(3, .int (nI (i + 1))), (2, .int (nI (pm_c (fun i => pl (1480 * k + i)) (i + 1)))), (0, .ref m0), (1, .int (nI k))]) hx hb dM_lacks_37 hl (k := 1) rfl (nI_1 i) (by decide) rfl (fun ls hl => ?_)
          refine lv_goto (tgt := 4) hx hb dM_lacks_40 (by decide) ?_
          exact ih (i + 1) (by omega) (by omega) H locs w ls (lv_sub hl [0, 1, 2, 3] rfl)
        · refine lv_iconst (v := 1) hx hb dM_lacks_30 (by decide) ?_
          refine lv_goto (tgt := 35) hx hb dM_lacks_31 (by decide) ?_
          refine lv_iadd hx hb dM_lacks_35 ?_
          refine pw_top (y := nI (pm_c (fun i => pl (1480 * k + i)) (i + 1))) (show nI (pm_c (fun i => pl (1480 * k + i)) i) + 1 = nI (pm_c (fun i => pl (1480 * k + i)) i + _) by rw [if_pos (pm_ng h2)]; exact nI_1 _) ?_
          refine lv_istore_n (lv' := [(2, .int (nI (pm_c (fun i => pl (1480 * k + i)) (i + 1)))), (3, .int (nI i)), (0, .ref m0), (1, .int (nI k))]) hx hb dM_lacks_36 rfl hl (by decide) rfl (fun ls hl => ?_)
          refine lv_iinc (v := nI (i + 1)) (lv' := [(3, .int (nI (i + 1))), (2, .int (nI (pm_c (fun i => pl (1480 * k + i)) (i + 1)))), (0, .ref m0), (1, .int (nI k))]) hx hb dM_lacks_37 hl (k := 1) rfl (nI_1 i) (by decide) rfl (fun ls hl => ?_)
          refine lv_goto (tgt := 4) hx hb dM_lacks_40 (by decide) ?_
          exact ih (i + 1) (by omega) (by omega) H locs w ls (lv_sub hl [0, 1, 2, 3] rfl)
  exact loop (wn + 1) 0 (by omega) (by omega) _ _ w ls hl
