set_option maxHeartbeats 4000000 in
set_option maxRecDepth 100000 in
/-- the reference: pass -/
theorem pm_c_pass (l : Launch) (D : va_G) (m0 : Nat) (ad : Nat → Nat) (cI : ClassId) (cd : Int32) (mt : Nat) (mf : Nat) (fd : Nat → Int32) (ct : Nat) (sc : Nat → Int32) (gl : Nat → Int32) (nu : Nat → Int32) (si : Nat → Int32) (wh : Nat → Int32) (pl : Nat → Int32) (sm : Int32) (ms : Int32) (mg : Int32) (mn : Int32) (mk : Int32) (md : Nat → Int32) (sz : Nat) (hmt : mt ≤ 1000000000) (hct : ct ≤ 4) (n : Int32) : pw_Mi l yM_pass cM_pass 3 .int ({ frames := 1, cells := 0, slots := 0, locals := 60 }) D [(cI, .int)] [.ref m0, .int n] (pm_W m0 ad cI cd mt mf fd ct sc gl nu si wh pl sm ms mg mn mk md) sz (σ := Int32 × Nat × Nat × (Nat → Int32) × (Nat → Int32) × (Nat → Int32) × (Nat → Int32) × (Nat → Int32) × (Nat → Int32)) (fun r u => (u = (1, mt, ct, sc, gl, nu, si, wh, pl) ∧ ¬ (0 ≤ n.toInt ∧ n.toInt ≤ 1000000)) ∨ (u = (2, mt, ct, sc, gl, nu, si, wh, pl) ∧ (0 ≤ n.toInt ∧ n.toInt ≤ 1000000) ∧ 1000000000 < (mt : Int) + n.toInt) ∨ ∃ n9, n9 ≤ 1000000 ∧ n = nI n9 ∧ mt + n9 ≤ 1000000000 ∧ u = (0, mt + n9, pm_gv (mt + n9) ct ct sc gl nu si wh pl) ∧ r = nI (ct - (pm_gv (mt + n9) ct ct sc gl nu si wh pl).1)) (fun u => pm_W m0 ad cI u.1 u.2.1 mf fd u.2.2.1 u.2.2.2.1 u.2.2.2.2.1 u.2.2.2.2.2.1 u.2.2.2.2.2.2.1 u.2.2.2.2.2.2.2.1 u.2.2.2.2.2.2.2.2 sm ms mg mn mk md) 0 0 := by
  refine pw_openI (by decide) (Nat.le_of_ble_eq_true rfl) ?_
  intro p e s m below meth c ls S hr hlk hl hsz w
  obtain ⟨hx, hb, hml, hown, hts⟩ := id S
  have hl : lv_has ls 3 [(0, .ref m0), (1, .int n)] := hl
  generalize va_A (pm_W m0 ad cI cd mt mf fd ct sc gl nu si wh pl sm ms mg mn mk md) sz = A at w ⊢
  refine lv_aload_n hx hb dM_pass_0 rfl (lv_at hl 0 rfl) ?_
  refine lv_iload_n hx hb dM_pass_1 rfl (lv_at hl 1 rfl) ?_
  refine lv_if_lt (tgt := 11) hx hb dM_pass_2 (by decide) (fun h1 => ?_) (fun h1 => ?_)
  · refine lv_iconst (v := 1) hx hb dM_pass_11 (by decide) ?_
    refine lv_goto (tgt := 31) hx hb dM_pass_12 (by decide) ?_
    refine pw_put S w pm_FM 0 (fs := [.int cd, .int (nI mt), .int (nI mf), .ref (ad 0), .int (nI ct), .ref (ad 1), .ref (ad 2), .ref (ad 3), .ref (ad 4), .ref (ad 5), .ref (ad 6), .int sm, .int ms, .int mg, .int mn, .int mk, .ref (ad 7)]) rfl 0 (by decide) eM_34 rfl (v := .int 1) rfl rfl (Nat.le_of_ble_eq_true rfl) dM_pass_31 (fun H locs w => ?_)
    have w : pw_S D [(cI, .int)] A (pm_W m0 ad cI 1 mt mf fd ct sc gl nu si wh pl sm ms mg mn mk md) s _ _ := w
    refine lv_aload_n hx hb dM_pass_34 rfl (lv_at hl 0 rfl) ?_
    refine pw_get S w pm_FM 0 rfl 0 (by decide) eM_34 (v := .int 1) rfl dM_pass_35 ?_
    refine lv_if_le (tgt := 43) hx hb dM_pass_38 (by decide) (fun h9 => absurd h9 (by decide)) (fun _ => ?_)
    refine lv_iconst (v := 0) hx hb dM_pass_41 (by decide) ?_
    exact pw_reti S hr hlk (1, mt, ct, sc, gl, nu, si, wh, pl) w (Or.inl ⟨rfl, fun q => absurd q.1 (by have h9 := Int32.lt_iff_toInt_lt.mp h1; have : (0 : Int32).toInt = 0 := rfl; omega)⟩) (by decide) (by decide) dM_pass_42
  · refine lv_iload_n hx hb dM_pass_5 rfl (lv_at hl 1 rfl) ?_
    refine lv_ldc (v := 1000000) hx hb hown (hts _ cM_84) dM_pass_6 ?_
    refine lv_icmp_le (tgt := 15) hx hb dM_pass_8 (by decide) (fun h2 => ?_) (fun h2 => ?_)
    · have hn8 : n.toInt ≤ 1000000 := by have h9 := Int32.le_iff_toInt_le.mp h2; have : (1000000 : Int32).toInt = 1000000 := rfl; omega
      obtain ⟨n9, hn9, rfl⟩ := nI_of h1
      rw [nI_toInt hn9] at hn8
      clear h1 h2
      refine lv_aload_n hx hb dM_pass_15 rfl (lv_at hl 0 rfl) ?_
      refine pw_get S w pm_FM 0 rfl 1 (by decide) eM_50 (v := .int (nI mt)) rfl dM_pass_16 ?_
      refine lv_iload_n hx hb dM_pass_19 rfl (lv_at hl 1 rfl) ?_
      refine lv_iadd hx hb dM_pass_20 ?_
      refine pw_top (y := nI (mt + n9)) (nI_add mt n9) ?_
      refine lv_ldc (v := 1000000000) hx hb hown (hts _ cM_85) dM_pass_21 ?_
      refine lv_icmp_le (tgt := 30) hx hb dM_pass_23 (by decide) (fun h1 => ?_) (fun h1 => ?_)
      · have h9 : mt + n9 ≤ 1000000000 := (nI_leI (a := mt + n9) (b := 1000000000) (by omega) (by decide)).mp h1
        refine lv_iconst (v := 0) hx hb dM_pass_30 (by decide) ?_
        refine pw_put S w pm_FM 0 (fs := [.int cd, .int (nI mt), .int (nI mf), .ref (ad 0), .int (nI ct), .ref (ad 1), .ref (ad 2), .ref (ad 3), .ref (ad 4), .ref (ad 5), .ref (ad 6), .int sm, .int ms, .int mg, .int mn, .int mk, .ref (ad 7)]) rfl 0 (by decide) eM_34 rfl (v := .int 0) rfl rfl (Nat.le_of_ble_eq_true rfl) dM_pass_31 (fun H locs w => ?_)
        have w : pw_S D [(cI, .int)] A (pm_W m0 ad cI 0 mt mf fd ct sc gl nu si wh pl sm ms mg mn mk md) s _ _ := w
        refine lv_aload_n hx hb dM_pass_34 rfl (lv_at hl 0 rfl) ?_
        refine pw_get S w pm_FM 0 rfl 0 (by decide) eM_34 (v := .int 0) rfl dM_pass_35 ?_
        refine lv_if_le (tgt := 43) hx hb dM_pass_38 (by decide) (fun _ => ?_) (fun h9 => absurd (by decide) h9)
        refine lv_aload_n hx hb dM_pass_43 rfl (lv_at hl 0 rfl) ?_
        refine lv_dup hx hb dM_pass_44 rfl ?_
        refine pw_get S w pm_FM 0 rfl 1 (by decide) eM_50 (v := .int (nI mt)) rfl dM_pass_45 ?_
        refine lv_iload_n hx hb dM_pass_48 rfl (lv_at hl 1 rfl) ?_
        refine lv_iadd hx hb dM_pass_49 ?_
        refine pw_top (y := nI (mt + n9)) (nI_add mt n9) ?_
        refine pw_put S w pm_FM 0 (fs := [.int 0, .int (nI mt), .int (nI mf), .ref (ad 0), .int (nI ct), .ref (ad 1), .ref (ad 2), .ref (ad 3), .ref (ad 4), .ref (ad 5), .ref (ad 6), .int sm, .int ms, .int mg, .int mn, .int mk, .ref (ad 7)]) rfl 1 (by decide) eM_50 rfl (v := .int (nI (mt + n9))) rfl rfl (Nat.le_of_ble_eq_true rfl) dM_pass_50 (fun H locs w => ?_)
        have w : pw_S D [(cI, .int)] A (pm_W m0 ad cI 0 (mt + n9) mf fd ct sc gl nu si wh pl sm ms mg mn mk md) s _ _ := w
        refine lv_iconst (v := 0) hx hb dM_pass_53 (by decide) ?_
        refine lv_istore_n (lv' := [(2, .int 0), (0, .ref m0), (1, .int (nI n9))]) hx hb dM_pass_54 rfl hl (by decide) rfl (fun ls hl => ?_)
        have loop : ∀ (n : Nat) (i ct1 : Nat) (sc1 gl1 nu1 si1 wh1 pl1 : Nat → Int32), i ≤ ct → ct < i + n → ct1 + i = ct → pm_gv (mt + n9) ct ct sc gl nu si wh pl = pm_gv (mt + n9) (ct - i) ct1 sc1 gl1 nu1 si1 wh1 pl1 → ∀ (H : Heap) (locs : List Loc), pw_S D [(cI, .int)] A (pm_W m0 ad cI 0 (mt + n9) mf fd ct1 sc1 gl1 nu1 si1 wh1 pl1 sm ms mg mn mk md) s H locs → ∀ (ls : Array Slot), lv_has ls 3 [(2, .int (nI i)), (0, .ref m0), (1, .int (nI n9))] → W p l e ({ frames := 1, cells := 0, slots := 0, locals := 60 }) s m #[Value.ref m0, Value.int (nI n9)] below meth c H locs 0 0 (MQ below (va_Qi (S := Int32 × Nat × Nat × (Nat → Int32) × (Nat → Int32) × (Nat → Int32) × (Nat → Int32) × (Nat → Int32) × (Nat → Int32)) (fun r u => (u = (1, mt, ct, sc, gl, nu, si, wh, pl) ∧ ¬ (0 ≤ (nI n9).toInt ∧ (nI n9).toInt ≤ 1000000)) ∨ (u = (2, mt, ct, sc, gl, nu, si, wh, pl) ∧ (0 ≤ (nI n9).toInt ∧ (nI n9).toInt ≤ 1000000) ∧ 1000000000 < (mt : Int) + (nI n9).toInt) ∨ ∃ n8, n8 ≤ 1000000 ∧ nI n9 = nI n8 ∧ mt + n8 ≤ 1000000000 ∧ u = (0, mt + n8, pm_gv (mt + n8) ct ct sc gl nu si wh pl) ∧ r = nI (ct - (pm_gv (mt + n8) ct ct sc gl nu si wh pl).1)) (pw_B D (fun u => pm_W m0 ad cI u.1 u.2.1 mf fd u.2.2.1 u.2.2.2.1 u.2.2.2.2.1 u.2.2.2.2.2.1 u.2.2.2.2.2.2.1 u.2.2.2.2.2.2.2.1 u.2.2.2.2.2.2.2.2 sm ms mg mn mk md) (fun _ => [(cI, .int)]) A) A) #[Value.ref m0, Value.int (nI n9)] s 0 0 A) (F0 m 55 ls []) := by
          intro n
          induction n with
          | zero => intros; omega
          | succ n ih =>
            intro i ct1 sc1 gl1 nu1 si1 wh1 pl1 hi hn hci hgv H locs w ls hl
            refine lv_aload_n hx hb dM_pass_55 rfl (lv_at hl 1 rfl) ?_
            refine pw_get S w pm_FM 0 rfl 4 (by decide) eM_43 (v := .int (nI ct1)) rfl dM_pass_56 ?_
            refine lv_if_le (tgt := 90) hx hb dM_pass_59 (by decide) (fun h2 => ?_) (fun h2 => ?_)
            · have hz : ct1 = 0 := by have := (nI_leI (a := ct1) (b := 0) (by omega) (by decide)).mp h2; omega
              have e9 : pm_gv (mt + n9) ct ct sc gl nu si wh pl = (ct1, sc1, gl1, nu1, si1, wh1, pl1) := hgv.trans (by rw [show ct - i = 0 by omega]; rfl)
              refine lv_iload_n hx hb dM_pass_90 rfl (lv_at hl 0 rfl) ?_
              exact pw_reti S hr hlk (0, mt + n9, ct1, sc1, gl1, nu1, si1, wh1, pl1) w (Or.inr (Or.inr ⟨n9, by omega, rfl, by omega, by rw [e9], by rw [e9]; show nI i = nI (ct - ct1); congr 1; omega⟩)) (by decide) (by decide) dM_pass_91
            · have hpos : 0 < ct1 := Nat.pos_of_ne_zero (fun q => h2 (by rw [q]; exact nI_le (Nat.le_refl 0) (by decide)))
              refine lv_aload_n hx hb dM_pass_62 rfl (lv_at hl 1 rfl) ?_
              refine pw_get S w pm_FM 0 rfl 1 (by decide) eM_50 (v := .int (nI (mt + n9))) rfl dM_pass_63 ?_
              refine lv_aload_n hx hb dM_pass_66 rfl (lv_at hl 1 rfl) ?_
              refine pw_get S w pm_FM 0 rfl 8 (by decide) eM_22 (v := .ref (ad 4)) rfl dM_pass_67 ?_
              refine lv_iconst (v := 0) hx hb dM_pass_70 (by decide) ?_
              refine pw_top (y := nI 0) rfl ?_
              refine pw_iald S w 5 0 (a := ad 4) (f := si1) (n := 5) (cA := cI) rfl rfl (j := 0) (by omega) (by decide) dM_pass_71 ?_
              refine lv_isub hx hb dM_pass_72 ?_
              refine lv_sipush (v := 300) hx hb dM_pass_73 (by decide) ?_
              refine lv_icmp_lt (tgt := 90) hx hb dM_pass_76 (by decide) (fun h3 => ?_) (fun h3 => ?_)
              · have e9 : pm_gv (mt + n9) ct ct sc gl nu si wh pl = (ct1, sc1, gl1, nu1, si1, wh1, pl1) := hgv.trans (by rw [show ct - i = (ct - i - 1) + 1 by omega]; exact if_neg (fun q => q.2 h3))
                refine lv_iload_n hx hb dM_pass_90 rfl (lv_at hl 0 rfl) ?_
                exact pw_reti S hr hlk (0, mt + n9, ct1, sc1, gl1, nu1, si1, wh1, pl1) w (Or.inr (Or.inr ⟨n9, by omega, rfl, by omega, by rw [e9], by rw [e9]; show nI i = nI (ct - ct1); congr 1; omega⟩)) (by decide) (by decide) dM_pass_91
              · refine lv_aload_n hx hb dM_pass_79 rfl (lv_at hl 1 rfl) ?_
                refine lv_iconst (v := 0) hx hb dM_pass_80 (by decide) ?_
                refine pw_top (y := nI 0) rfl ?_
                refine pw_gov0 w.all (va_runV (C := RM) (As := [.int (nI 0)]) (rest := []) S (pm_c_forget l D m0 ad cI 0 (mt + n9) mf fd ct1 sc1 gl1 nu1 si1 wh1 pl1 sm ms mg mn mk md _ 0 hpos (by omega)) (pw_cw (n := 1) S eM_46 iM_forget sM_forget iniM kM_forget rfl rfl (by decide +kernel) ⟨by decide, by decide⟩) ⟨pw_blind, va_recv w.1 w.2.1 (ci := cM) (q0 := 0) rfl rfl, pw_pre w.all w.1⟩ rfl rfl hl.1 rfl (lv_room (Nat.le_of_ble_eq_true rfl)) dM_pass_81 ⟨Nat.zero_le _, Nat.zero_le _⟩) (fun  u H locs _ _ w => ?_)
                have w := w.one
                refine lv_iinc (v := nI (i + 1)) (lv' := [(2, .int (nI (i + 1))), (0, .ref m0), (1, .int (nI n9))]) hx hb dM_pass_84 hl (k := 0) rfl (nI_1 i) (by decide) rfl (fun ls hl => ?_)
                refine lv_goto (tgt := 55) hx hb dM_pass_87 (by decide) ?_
                exact ih (i + 1) (ct1 - 1) _ _ _ _ _ _ (by omega) (by omega) (by omega) (hgv.trans (by rw [show ct - i = (ct - (i + 1)) + 1 by omega]; exact if_pos ⟨hpos, h3⟩)) H locs w ls hl
        exact loop (ct + 1) 0 ct sc gl nu si wh pl (by omega) (by omega) (by omega) (by rw [Nat.sub_zero]) _ _ w ls hl
      · have h9 : ¬ mt + n9 ≤ 1000000000 := fun q => h1 ((nI_leI (a := mt + n9) (b := 1000000000) (by omega) (by decide)).mpr q)
        refine lv_iconst (v := 2) hx hb dM_pass_26 (by decide) ?_
        refine lv_goto (tgt := 31) hx hb dM_pass_27 (by decide) ?_
        refine pw_put S w pm_FM 0 (fs := [.int cd, .int (nI mt), .int (nI mf), .ref (ad 0), .int (nI ct), .ref (ad 1), .ref (ad 2), .ref (ad 3), .ref (ad 4), .ref (ad 5), .ref (ad 6), .int sm, .int ms, .int mg, .int mn, .int mk, .ref (ad 7)]) rfl 0 (by decide) eM_34 rfl (v := .int 2) rfl rfl (Nat.le_of_ble_eq_true rfl) dM_pass_31 (fun H locs w => ?_)
        have w : pw_S D [(cI, .int)] A (pm_W m0 ad cI 2 mt mf fd ct sc gl nu si wh pl sm ms mg mn mk md) s _ _ := w
        refine lv_aload_n hx hb dM_pass_34 rfl (lv_at hl 0 rfl) ?_
        refine pw_get S w pm_FM 0 rfl 0 (by decide) eM_34 (v := .int 2) rfl dM_pass_35 ?_
        refine lv_if_le (tgt := 43) hx hb dM_pass_38 (by decide) (fun h9 => absurd h9 (by decide)) (fun _ => ?_)
        refine lv_iconst (v := 0) hx hb dM_pass_41 (by decide) ?_
        exact pw_reti S hr hlk (2, mt, ct, sc, gl, nu, si, wh, pl) w (Or.inr (Or.inl ⟨rfl, by rw [nI_toInt hn9]; omega, by rw [nI_toInt hn9]; omega⟩)) (by decide) (by decide) dM_pass_42
    · refine lv_iconst (v := 1) hx hb dM_pass_11 (by decide) ?_
      refine lv_goto (tgt := 31) hx hb dM_pass_12 (by decide) ?_
      refine pw_put S w pm_FM 0 (fs := [.int cd, .int (nI mt), .int (nI mf), .ref (ad 0), .int (nI ct), .ref (ad 1), .ref (ad 2), .ref (ad 3), .ref (ad 4), .ref (ad 5), .ref (ad 6), .int sm, .int ms, .int mg, .int mn, .int mk, .ref (ad 7)]) rfl 0 (by decide) eM_34 rfl (v := .int 1) rfl rfl (Nat.le_of_ble_eq_true rfl) dM_pass_31 (fun H locs w => ?_)
      have w : pw_S D [(cI, .int)] A (pm_W m0 ad cI 1 mt mf fd ct sc gl nu si wh pl sm ms mg mn mk md) s _ _ := w
      refine lv_aload_n hx hb dM_pass_34 rfl (lv_at hl 0 rfl) ?_
      refine pw_get S w pm_FM 0 rfl 0 (by decide) eM_34 (v := .int 1) rfl dM_pass_35 ?_
      refine lv_if_le (tgt := 43) hx hb dM_pass_38 (by decide) (fun h9 => absurd h9 (by decide)) (fun _ => ?_)
      refine lv_iconst (v := 0) hx hb dM_pass_41 (by decide) ?_
      exact pw_reti S hr hlk (1, mt, ct, sc, gl, nu, si, wh, pl) w (Or.inl ⟨rfl, fun q => absurd q.2 (by have h9 := pw_nle h2; have : (1000000 : Int32).toInt = 1000000 := rfl; omega)⟩) (by decide) (by decide) dM_pass_42

set_option maxHeartbeats 4000000 in
set_option maxRecDepth 100000 in
/-- the reference: about -/
theorem pm_c_about (l : Launch) (D : va_G) (m0 : Nat) (ad : Nat → Nat) (cI : ClassId) (cd : Int32) (mt : Nat) (mf : Nat) (fd : Nat → Int32) (ct : Nat) (sc : Nat → Int32) (gl : Nat → Int32) (nu : Nat → Int32) (si : Nat → Int32) (wh : Nat → Int32) (pl : Nat → Int32) (sm : Int32) (ms : Int32) (mg : Int32) (mn : Int32) (mk : Int32) (md : Nat → Int32) (sz : Nat) (n : Int32) : pw_Mi l yM_about cM_about 2 .int ({ frames := 0, cells := 0, slots := 0, locals := 0 }) D [(cI, .int)] [.ref m0, .int n] (pm_W m0 ad cI cd mt mf fd ct sc gl nu si wh pl sm ms mg mn mk md) sz (σ := Int32) (fun r u => (u = 1 ∧ ¬ (0 ≤ n.toInt ∧ n.toInt ≤ 3)) ∨ (u = 2 ∧ (0 ≤ n.toInt ∧ n.toInt ≤ 3) ∧ sm = 0) ∨ (u = 0 ∧ (0 ≤ n.toInt ∧ n.toInt ≤ 3) ∧ ¬ sm = 0 ∧ r = (if n = 0 then ms else if n = 1 then mg else if n = 2 then mn else mk))) (fun u => pm_W m0 ad cI u mt mf fd ct sc gl nu si wh pl sm ms mg mn mk md) 0 0 := by
  refine pw_openI (by decide) (Nat.le_of_ble_eq_true rfl) ?_
  intro p e s m below meth c ls S hr hlk hl hsz w
  obtain ⟨hx, hb, hml, hown, hts⟩ := id S
  have hl : lv_has ls 2 [(0, .ref m0), (1, .int n)] := hl
  generalize va_A (pm_W m0 ad cI cd mt mf fd ct sc gl nu si wh pl sm ms mg mn mk md) sz = A at w ⊢
  refine lv_aload_n hx hb dM_about_0 rfl (lv_at hl 0 rfl) ?_
  refine lv_iload_n hx hb dM_about_1 rfl (lv_at hl 1 rfl) ?_
  refine lv_if_lt (tgt := 10) hx hb dM_about_2 (by decide) (fun h1 => ?_) (fun h1 => ?_)
  · refine lv_iconst (v := 1) hx hb dM_about_10 (by decide) ?_
    refine lv_goto (tgt := 26) hx hb dM_about_11 (by decide) ?_
    refine pw_put S w pm_FM 0 (fs := [.int cd, .int (nI mt), .int (nI mf), .ref (ad 0), .int (nI ct), .ref (ad 1), .ref (ad 2), .ref (ad 3), .ref (ad 4), .ref (ad 5), .ref (ad 6), .int sm, .int ms, .int mg, .int mn, .int mk, .ref (ad 7)]) rfl 0 (by decide) eM_34 rfl (v := .int 1) rfl rfl (Nat.le_of_ble_eq_true rfl) dM_about_26 (fun H locs w => ?_)
    have w : pw_S D [(cI, .int)] A (pm_W m0 ad cI 1 mt mf fd ct sc gl nu si wh pl sm ms mg mn mk md) s _ _ := w
    refine lv_aload_n hx hb dM_about_29 rfl (lv_at hl 0 rfl) ?_
    refine pw_get S w pm_FM 0 rfl 0 (by decide) eM_34 (v := .int 1) rfl dM_about_30 ?_
    refine lv_if_le (tgt := 40) hx hb dM_about_33 (by decide) (fun h9 => absurd h9 (by decide)) (fun _ => ?_)
    refine lv_iconst (v := 0) hx hb dM_about_36 (by decide) ?_
    refine lv_goto (tgt := 79) hx hb dM_about_37 (by decide) ?_
    exact pw_reti S hr hlk 1 w (Or.inl ⟨rfl, fun q => absurd q.1 (by have h9 := Int32.lt_iff_toInt_lt.mp h1; have : (0 : Int32).toInt = 0 := rfl; omega)⟩) (by decide) (by decide) dM_about_79
  · refine lv_iload_n hx hb dM_about_5 rfl (lv_at hl 1 rfl) ?_
    refine lv_iconst (v := 3) hx hb dM_about_6 (by decide) ?_
    refine lv_icmp_le (tgt := 14) hx hb dM_about_7 (by decide) (fun h2 => ?_) (fun h2 => ?_)
    · have hok : 0 ≤ n.toInt ∧ n.toInt ≤ 3 := ⟨by have h9 := pw_nlt h1; have : (0 : Int32).toInt = 0 := rfl; omega, by have h9 := Int32.le_iff_toInt_le.mp h2; have : (3 : Int32).toInt = 3 := rfl; omega⟩
      refine lv_aload_n hx hb dM_about_14 rfl (lv_at hl 0 rfl) ?_
      refine pw_get S w pm_FM 0 rfl 11 (by decide) eM_53 (v := .int sm) rfl dM_about_15 ?_
      refine lv_if_ne (tgt := 25) hx hb dM_about_18 (by decide) (fun h3 => ?_) (fun h3 => ?_)
      · refine lv_iconst (v := 0) hx hb dM_about_25 (by decide) ?_
        refine pw_put S w pm_FM 0 (fs := [.int cd, .int (nI mt), .int (nI mf), .ref (ad 0), .int (nI ct), .ref (ad 1), .ref (ad 2), .ref (ad 3), .ref (ad 4), .ref (ad 5), .ref (ad 6), .int sm, .int ms, .int mg, .int mn, .int mk, .ref (ad 7)]) rfl 0 (by decide) eM_34 rfl (v := .int 0) rfl rfl (Nat.le_of_ble_eq_true rfl) dM_about_26 (fun H locs w => ?_)
        have w : pw_S D [(cI, .int)] A (pm_W m0 ad cI 0 mt mf fd ct sc gl nu si wh pl sm ms mg mn mk md) s _ _ := w
        refine lv_aload_n hx hb dM_about_29 rfl (lv_at hl 0 rfl) ?_
        refine pw_get S w pm_FM 0 rfl 0 (by decide) eM_34 (v := .int 0) rfl dM_about_30 ?_
        refine lv_if_le (tgt := 40) hx hb dM_about_33 (by decide) (fun _ => ?_) (fun h9 => absurd (by decide) h9)
        refine lv_iload_n hx hb dM_about_40 rfl (lv_at hl 1 rfl) ?_
        refine lv_if_ne (tgt := 51) hx hb dM_about_41 (by decide) (fun h4 => ?_) (fun h4 => ?_)
        · refine lv_iload_n hx hb dM_about_51 rfl (lv_at hl 1 rfl) ?_
          refine lv_iconst (v := 1) hx hb dM_about_52 (by decide) ?_
          refine lv_icmp_ne (tgt := 63) hx hb dM_about_53 (by decide) (fun h5 => ?_) (fun h5 => ?_)
          · refine lv_iload_n hx hb dM_about_63 rfl (lv_at hl 1 rfl) ?_
            refine lv_iconst (v := 2) hx hb dM_about_64 (by decide) ?_
            refine lv_icmp_ne (tgt := 75) hx hb dM_about_65 (by decide) (fun h6 => ?_) (fun h6 => ?_)
            · refine lv_aload_n hx hb dM_about_75 rfl (lv_at hl 0 rfl) ?_
              refine pw_get S w pm_FM 0 rfl 15 (by decide) eM_66 (v := .int mk) rfl dM_about_76 ?_
              exact pw_reti S hr hlk 0 w (Or.inr (Or.inr ⟨rfl, hok, h3, by rw [if_neg h4, if_neg h5, if_neg h6]⟩)) (by decide) (by decide) dM_about_79
            · refine lv_aload_n hx hb dM_about_68 rfl (lv_at hl 0 rfl) ?_
              refine pw_get S w pm_FM 0 rfl 14 (by decide) eM_63 (v := .int mn) rfl dM_about_69 ?_
              refine lv_goto (tgt := 79) hx hb dM_about_72 (by decide) ?_
              exact pw_reti S hr hlk 0 w (Or.inr (Or.inr ⟨rfl, hok, h3, by rw [if_neg h4, if_neg h5, if_pos h6]⟩)) (by decide) (by decide) dM_about_79
          · refine lv_aload_n hx hb dM_about_56 rfl (lv_at hl 0 rfl) ?_
            refine pw_get S w pm_FM 0 rfl 13 (by decide) eM_60 (v := .int mg) rfl dM_about_57 ?_
            refine lv_goto (tgt := 79) hx hb dM_about_60 (by decide) ?_
            exact pw_reti S hr hlk 0 w (Or.inr (Or.inr ⟨rfl, hok, h3, by rw [if_neg h4, if_pos h5]⟩)) (by decide) (by decide) dM_about_79
        · refine lv_aload_n hx hb dM_about_44 rfl (lv_at hl 0 rfl) ?_
          refine pw_get S w pm_FM 0 rfl 12 (by decide) eM_57 (v := .int ms) rfl dM_about_45 ?_
          refine lv_goto (tgt := 79) hx hb dM_about_48 (by decide) ?_
          exact pw_reti S hr hlk 0 w (Or.inr (Or.inr ⟨rfl, hok, h3, by rw [if_pos h4]⟩)) (by decide) (by decide) dM_about_79
      · refine lv_iconst (v := 2) hx hb dM_about_21 (by decide) ?_
        refine lv_goto (tgt := 26) hx hb dM_about_22 (by decide) ?_
        refine pw_put S w pm_FM 0 (fs := [.int cd, .int (nI mt), .int (nI mf), .ref (ad 0), .int (nI ct), .ref (ad 1), .ref (ad 2), .ref (ad 3), .ref (ad 4), .ref (ad 5), .ref (ad 6), .int sm, .int ms, .int mg, .int mn, .int mk, .ref (ad 7)]) rfl 0 (by decide) eM_34 rfl (v := .int 2) rfl rfl (Nat.le_of_ble_eq_true rfl) dM_about_26 (fun H locs w => ?_)
        have w : pw_S D [(cI, .int)] A (pm_W m0 ad cI 2 mt mf fd ct sc gl nu si wh pl sm ms mg mn mk md) s _ _ := w
        refine lv_aload_n hx hb dM_about_29 rfl (lv_at hl 0 rfl) ?_
        refine pw_get S w pm_FM 0 rfl 0 (by decide) eM_34 (v := .int 2) rfl dM_about_30 ?_
        refine lv_if_le (tgt := 40) hx hb dM_about_33 (by decide) (fun h9 => absurd h9 (by decide)) (fun _ => ?_)
        refine lv_iconst (v := 0) hx hb dM_about_36 (by decide) ?_
        refine lv_goto (tgt := 79) hx hb dM_about_37 (by decide) ?_
        exact pw_reti S hr hlk 2 w (Or.inr (Or.inl ⟨rfl, hok, h3⟩)) (by decide) (by decide) dM_about_79
    · refine lv_iconst (v := 1) hx hb dM_about_10 (by decide) ?_
      refine lv_goto (tgt := 26) hx hb dM_about_11 (by decide) ?_
      refine pw_put S w pm_FM 0 (fs := [.int cd, .int (nI mt), .int (nI mf), .ref (ad 0), .int (nI ct), .ref (ad 1), .ref (ad 2), .ref (ad 3), .ref (ad 4), .ref (ad 5), .ref (ad 6), .int sm, .int ms, .int mg, .int mn, .int mk, .ref (ad 7)]) rfl 0 (by decide) eM_34 rfl (v := .int 1) rfl rfl (Nat.le_of_ble_eq_true rfl) dM_about_26 (fun H locs w => ?_)
      have w : pw_S D [(cI, .int)] A (pm_W m0 ad cI 1 mt mf fd ct sc gl nu si wh pl sm ms mg mn mk md) s _ _ := w
      refine lv_aload_n hx hb dM_about_29 rfl (lv_at hl 0 rfl) ?_
      refine pw_get S w pm_FM 0 rfl 0 (by decide) eM_34 (v := .int 1) rfl dM_about_30 ?_
      refine lv_if_le (tgt := 40) hx hb dM_about_33 (by decide) (fun h9 => absurd h9 (by decide)) (fun _ => ?_)
      refine lv_iconst (v := 0) hx hb dM_about_36 (by decide) ?_
      refine lv_goto (tgt := 79) hx hb dM_about_37 (by decide) ?_
      exact pw_reti S hr hlk 1 w (Or.inl ⟨rfl, fun q => absurd q.2 (by have h9 := pw_nle h2; have : (3 : Int32).toInt = 3 := rfl; omega)⟩) (by decide) (by decide) dM_about_79

set_option maxHeartbeats 4000000 in
set_option maxRecDepth 100000 in
/-- the reference: byteAt -/
theorem pm_c_byteAt (l : Launch) (D : va_G) (m0 : Nat) (ad : Nat → Nat) (cI : ClassId) (cd : Int32) (mt : Nat) (mf : Nat) (fd : Nat → Int32) (ct : Nat) (sc : Nat → Int32) (gl : Nat → Int32) (nu : Nat → Int32) (si : Nat → Int32) (wh : Nat → Int32) (pl : Nat → Int32) (sm : Int32) (ms : Int32) (mg : Int32) (mn : Int32) (mk : Int32) (md : Nat → Int32) (sz : Nat) (wn : Nat) (hzs : ¬ sm = 0 → mk = nI wn ∧ wn ≤ 1480) (i : Int32) : pw_Mi l yM_byteAt cM_byteAt 2 .int ({ frames := 0, cells := 0, slots := 0, locals := 0 }) D [(cI, .int)] [.ref m0, .int i] (pm_W m0 ad cI cd mt mf fd ct sc gl nu si wh pl sm ms mg mn mk md) sz (σ := Int32) (fun r u => (u = 1 ∧ sm = 0) ∨ (u = 2 ∧ ¬ sm = 0 ∧ ¬ (0 ≤ i.toInt ∧ i.toInt < wn)) ∨ (u = 0 ∧ ¬ sm = 0 ∧ ∃ i9, i9 < wn ∧ i = nI i9 ∧ r = md i9)) (fun u => pm_W m0 ad cI u mt mf fd ct sc gl nu si wh pl sm ms mg mn mk md) 0 0 := by
  refine pw_openI (by decide) (Nat.le_of_ble_eq_true rfl) ?_
  intro p e s m below meth c ls S hr hlk hl hsz w
  obtain ⟨hx, hb, hml, hown, hts⟩ := id S
  have hl : lv_has ls 2 [(0, .ref m0), (1, .int i)] := hl
  generalize va_A (pm_W m0 ad cI cd mt mf fd ct sc gl nu si wh pl sm ms mg mn mk md) sz = A at w ⊢
  refine lv_aload_n hx hb dM_byteAt_0 rfl (lv_at hl 0 rfl) ?_
  refine lv_aload_n hx hb dM_byteAt_1 rfl (lv_at hl 0 rfl) ?_
  refine pw_get S w pm_FM 0 rfl 11 (by decide) eM_53 (v := .int sm) rfl dM_byteAt_2 ?_
  refine lv_if_ne (tgt := 12) hx hb dM_byteAt_5 (by decide) (fun h1 => ?_) (fun h1 => ?_)
  · obtain ⟨hz, hz2⟩ := hzs h1
    refine lv_iload_n hx hb dM_byteAt_12 rfl (lv_at hl 1 rfl) ?_
    refine lv_if_lt (tgt := 24) hx hb dM_byteAt_13 (by decide) (fun h2 => ?_) (fun h2 => ?_)
    · refine lv_iconst (v := 2) hx hb dM_byteAt_24 (by decide) ?_
      refine lv_goto (tgt := 29) hx hb dM_byteAt_25 (by decide) ?_
      refine pw_put S w pm_FM 0 (fs := [.int cd, .int (nI mt), .int (nI mf), .ref (ad 0), .int (nI ct), .ref (ad 1), .ref (ad 2), .ref (ad 3), .ref (ad 4), .ref (ad 5), .ref (ad 6), .int sm, .int ms, .int mg, .int mn, .int mk, .ref (ad 7)]) rfl 0 (by decide) eM_34 rfl (v := .int 2) rfl rfl (Nat.le_of_ble_eq_true rfl) dM_byteAt_29 (fun H locs w => ?_)
      have w : pw_S D [(cI, .int)] A (pm_W m0 ad cI 2 mt mf fd ct sc gl nu si wh pl sm ms mg mn mk md) s _ _ := w
      refine lv_aload_n hx hb dM_byteAt_32 rfl (lv_at hl 0 rfl) ?_
      refine pw_get S w pm_FM 0 rfl 0 (by decide) eM_34 (v := .int 2) rfl dM_byteAt_33 ?_
      refine lv_if_le (tgt := 43) hx hb dM_byteAt_36 (by decide) (fun h9 => absurd h9 (by decide)) (fun _ => ?_)
      refine lv_iconst (v := 0) hx hb dM_byteAt_39 (by decide) ?_
      refine lv_goto (tgt := 49) hx hb dM_byteAt_40 (by decide) ?_
      exact pw_reti S hr hlk 2 w (Or.inr (Or.inl ⟨rfl, h1, fun q => absurd q.1 (by have h9 := Int32.lt_iff_toInt_lt.mp h2; have : (0 : Int32).toInt = 0 := rfl; omega)⟩)) (by decide) (by decide) dM_byteAt_49
    · refine lv_iload_n hx hb dM_byteAt_16 rfl (lv_at hl 1 rfl) ?_
      refine lv_aload_n hx hb dM_byteAt_17 rfl (lv_at hl 0 rfl) ?_
      refine pw_get S w pm_FM 0 rfl 15 (by decide) eM_66 (v := .int mk) rfl dM_byteAt_18 ?_
      refine lv_icmp_lt (tgt := 28) hx hb dM_byteAt_21 (by decide) (fun h3 => ?_) (fun h3 => ?_)
      · obtain ⟨i9, hi9, rfl⟩ := nI_of h2
        have hlt : i9 < wn := by rw [hz, nI_ltI hi9 (by omega)] at h3; exact h3
        refine lv_iconst (v := 0) hx hb dM_byteAt_28 (by decide) ?_
        refine pw_put S w pm_FM 0 (fs := [.int cd, .int (nI mt), .int (nI mf), .ref (ad 0), .int (nI ct), .ref (ad 1), .ref (ad 2), .ref (ad 3), .ref (ad 4), .ref (ad 5), .ref (ad 6), .int sm, .int ms, .int mg, .int mn, .int mk, .ref (ad 7)]) rfl 0 (by decide) eM_34 rfl (v := .int 0) rfl rfl (Nat.le_of_ble_eq_true rfl) dM_byteAt_29 (fun H locs w => ?_)
        have w : pw_S D [(cI, .int)] A (pm_W m0 ad cI 0 mt mf fd ct sc gl nu si wh pl sm ms mg mn mk md) s _ _ := w
        refine lv_aload_n hx hb dM_byteAt_32 rfl (lv_at hl 0 rfl) ?_
        refine pw_get S w pm_FM 0 rfl 0 (by decide) eM_34 (v := .int 0) rfl dM_byteAt_33 ?_
        refine lv_if_le (tgt := 43) hx hb dM_byteAt_36 (by decide) (fun _ => ?_) (fun h9 => absurd (by decide) h9)
        refine lv_aload_n hx hb dM_byteAt_43 rfl (lv_at hl 0 rfl) ?_
        refine pw_get S w pm_FM 0 rfl 16 (by decide) eM_31 (v := .ref (ad 7)) rfl dM_byteAt_44 ?_
        refine lv_iload_n hx hb dM_byteAt_47 rfl (lv_at hl 1 rfl) ?_
        refine pw_iald S w 8 0 (a := ad 7) (f := md) (n := 1480) (cA := cI) rfl rfl (j := i9) (by omega) (by decide) dM_byteAt_48 ?_
        exact pw_reti S hr hlk 0 w (Or.inr (Or.inr ⟨rfl, h1, i9, hlt, rfl, rfl⟩)) (by decide) (by decide) dM_byteAt_49
      · refine lv_iconst (v := 2) hx hb dM_byteAt_24 (by decide) ?_
        refine lv_goto (tgt := 29) hx hb dM_byteAt_25 (by decide) ?_
        refine pw_put S w pm_FM 0 (fs := [.int cd, .int (nI mt), .int (nI mf), .ref (ad 0), .int (nI ct), .ref (ad 1), .ref (ad 2), .ref (ad 3), .ref (ad 4), .ref (ad 5), .ref (ad 6), .int sm, .int ms, .int mg, .int mn, .int mk, .ref (ad 7)]) rfl 0 (by decide) eM_34 rfl (v := .int 2) rfl rfl (Nat.le_of_ble_eq_true rfl) dM_byteAt_29 (fun H locs w => ?_)
        have w : pw_S D [(cI, .int)] A (pm_W m0 ad cI 2 mt mf fd ct sc gl nu si wh pl sm ms mg mn mk md) s _ _ := w
        refine lv_aload_n hx hb dM_byteAt_32 rfl (lv_at hl 0 rfl) ?_
        refine pw_get S w pm_FM 0 rfl 0 (by decide) eM_34 (v := .int 2) rfl dM_byteAt_33 ?_
        refine lv_if_le (tgt := 43) hx hb dM_byteAt_36 (by decide) (fun h9 => absurd h9 (by decide)) (fun _ => ?_)
        refine lv_iconst (v := 0) hx hb dM_byteAt_39 (by decide) ?_
        refine lv_goto (tgt := 49) hx hb dM_byteAt_40 (by decide) ?_
        exact pw_reti S hr hlk 2 w (Or.inr (Or.inl ⟨rfl, h1, fun q => h3 (by rw [hz]; exact Int32.lt_iff_toInt_lt.mpr (by rw [nI_toInt (by omega)]; exact q.2))⟩)) (by decide) (by decide) dM_byteAt_49
  · refine lv_iconst (v := 1) hx hb dM_byteAt_8 (by decide) ?_
    refine lv_goto (tgt := 29) hx hb dM_byteAt_9 (by decide) ?_
    refine pw_put S w pm_FM 0 (fs := [.int cd, .int (nI mt), .int (nI mf), .ref (ad 0), .int (nI ct), .ref (ad 1), .ref (ad 2), .ref (ad 3), .ref (ad 4), .ref (ad 5), .ref (ad 6), .int sm, .int ms, .int mg, .int mn, .int mk, .ref (ad 7)]) rfl 0 (by decide) eM_34 rfl (v := .int 1) rfl rfl (Nat.le_of_ble_eq_true rfl) dM_byteAt_29 (fun H locs w => ?_)
    have w : pw_S D [(cI, .int)] A (pm_W m0 ad cI 1 mt mf fd ct sc gl nu si wh pl sm ms mg mn mk md) s _ _ := w
    refine lv_aload_n hx hb dM_byteAt_32 rfl (lv_at hl 0 rfl) ?_
    refine pw_get S w pm_FM 0 rfl 0 (by decide) eM_34 (v := .int 1) rfl dM_byteAt_33 ?_
    refine lv_if_le (tgt := 43) hx hb dM_byteAt_36 (by decide) (fun h9 => absurd h9 (by decide)) (fun _ => ?_)
    refine lv_iconst (v := 0) hx hb dM_byteAt_39 (by decide) ?_
    refine lv_goto (tgt := 49) hx hb dM_byteAt_40 (by decide) ?_
    exact pw_reti S hr hlk 1 w (Or.inl ⟨rfl, h1⟩) (by decide) (by decide) dM_byteAt_49

set_option maxHeartbeats 4000000 in
set_option maxRecDepth 100000 in
/-- the reference: missing -/
theorem pm_c_missing (l : Launch) (D : va_G) (m0 : Nat) (ad : Nat → Nat) (cI : ClassId) (cd : Int32) (mt : Nat) (mf : Nat) (fd : Nat → Int32) (ct : Nat) (sc : Nat → Int32) (gl : Nat → Int32) (nu : Nat → Int32) (si : Nat → Int32) (wh : Nat → Int32) (pl : Nat → Int32) (sm : Int32) (ms : Int32) (mg : Int32) (mn : Int32) (mk : Int32) (md : Nat → Int32) (sz : Nat) (hct : ct ≤ 4) (wn : Nat → Nat) (hw : ∀ q, q < ct → wh q = nI (wn q) ∧ wn q ≤ 1480) (a b d3 : Int32) : pw_Mi l yM_missing cM_missing 5 .int ({ frames := 1, cells := 0, slots := 0, locals := 60 }) D [(cI, .int)] [.ref m0, .int a, .int b, .int d3] (pm_W m0 ad cI cd mt mf fd ct sc gl nu si wh pl sm ms mg mn mk md) sz (σ := Unit) (fun r _ => ∃ x, pm_fnd sc gl nu ct a b d3 x ∧ r = (match x with | none => -1 | some k => nI (pm_c (fun i => pl (1480 * k + i)) (wn k)))) (fun _ => pm_W m0 ad cI 0 mt mf fd ct sc gl nu si wh pl sm ms mg mn mk md) 0 0 := by
  refine pw_openI (by decide) (Nat.le_of_ble_eq_true rfl) ?_
  intro p e s m below meth c ls S hr hlk hl hsz w
  obtain ⟨hx, hb, hml, hown, hts⟩ := id S
  have hl : lv_has ls 5 [(0, .ref m0), (1, .int a), (2, .int b), (3, .int d3)] := hl
  generalize va_A (pm_W m0 ad cI cd mt mf fd ct sc gl nu si wh pl sm ms mg mn mk md) sz = A at w ⊢
  refine lv_aload_n hx hb dM_missing_0 rfl (lv_at hl 0 rfl) ?_
  refine lv_iconst (v := 0) hx hb dM_missing_1 (by decide) ?_
  refine pw_put S w pm_FM 0 (fs := [.int cd, .int (nI mt), .int (nI mf), .ref (ad 0), .int (nI ct), .ref (ad 1), .ref (ad 2), .ref (ad 3), .ref (ad 4), .ref (ad 5), .ref (ad 6), .int sm, .int ms, .int mg, .int mn, .int mk, .ref (ad 7)]) rfl 0 (by decide) eM_34 rfl (v := .int 0) rfl rfl (Nat.le_of_ble_eq_true rfl) dM_missing_2 (fun H locs w => ?_)
  have w : pw_S D [(cI, .int)] A (pm_W m0 ad cI 0 mt mf fd ct sc gl nu si wh pl sm ms mg mn mk md) s _ _ := w
  refine lv_aload_n hx hb dM_missing_5 rfl (lv_at hl 0 rfl) ?_
  refine lv_iload_n hx hb dM_missing_6 rfl (lv_at hl 1 rfl) ?_
  refine lv_iload_n hx hb dM_missing_7 rfl (lv_at hl 2 rfl) ?_
  refine lv_iload_n hx hb dM_missing_8 rfl (lv_at hl 3 rfl) ?_
  refine pw_goi0 w.all (va_runV (C := RM) (As := [.int a, .int b, .int d3]) (rest := []) S (pm_c_find l D m0 ad cI 0 mt mf fd ct sc gl nu si wh pl sm ms mg mn mk md _ hct a b d3) (pw_cw (n := 3) S eM_69 iM_find sM_find iniM kM_find rfl rfl (by decide +kernel) ⟨by decide, by decide⟩) ⟨pw_blind, va_recv w.1 w.2.1 (ci := cM) (q0 := 0) rfl rfl, pw_pre w.all w.1⟩ rfl rfl hl.1 rfl (lv_room (Nat.le_of_ble_eq_true rfl)) dM_missing_9 ⟨Nat.zero_le _, Nat.zero_le _⟩) (fun r u H locs hp w => ?_)
  have w := w.one
  obtain ⟨x, hfx, rfl⟩ := hp
  refine lv_istore (lv' := [(4, .int (px_ix x)), (0, .ref m0), (1, .int a), (2, .int b), (3, .int d3)]) hx hb dM_missing_12 hl (by decide) rfl (fun ls hl => ?_)
  refine lv_iload hx hb dM_missing_14 (lv_at hl 0 rfl) ?_
  refine lv_if_ge (tgt := 23) hx hb dM_missing_16 (by decide) (fun h1 => ?_) (fun h1 => ?_)
  · obtain ⟨k, rfl⟩ : ∃ k, x = some k := by cases x with | none => exact absurd h1 (by decide) | some k => exact ⟨k, rfl⟩
    obtain ⟨hwk, hwk2⟩ := hw k hfx.1
    have hl : lv_has ls 5 [(4, .int (nI k)), (0, .ref m0), (1, .int a), (2, .int b), (3, .int d3)] := hl
    refine lv_aload_n hx hb dM_missing_23 rfl (lv_at hl 1 rfl) ?_
    refine lv_iload hx hb dM_missing_24 (lv_at hl 0 rfl) ?_
    refine pw_goi0 w.all (va_runV (C := RM) (As := [.int (nI k)]) (rest := []) S (pm_c_lacks l D m0 ad cI 0 mt mf fd ct sc gl nu si wh pl sm ms mg mn mk md _ k (by have := hfx.1; omega) (wn k) hwk hwk2) (pw_cw (n := 1) S eM_77 iM_lacks sM_lacks iniM kM_lacks rfl rfl (by decide +kernel) ⟨by decide, by decide⟩) ⟨pw_blind, va_recv w.1 w.2.1 (ci := cM) (q0 := 0) rfl rfl, pw_pre w.all w.1⟩ rfl rfl hl.1 rfl (lv_room (Nat.le_of_ble_eq_true rfl)) dM_missing_26 ⟨Nat.zero_le _, Nat.zero_le _⟩) (fun r u H locs hp w => ?_)
    have w := w.one
    subst hp
    exact pw_reti S hr hlk () w ⟨some k, hfx, rfl⟩ (by decide) (by decide) dM_missing_29
  · have hx0 : x = none := by cases x with | none => rfl | some k => exact absurd (nI_pos' (show k < 2 ^ 31 by have := hfx.1; omega)) h1
    subst hx0
    refine lv_iconst (v := (-1)) hx hb dM_missing_19 (by decide) ?_
    refine lv_goto (tgt := 29) hx hb dM_missing_20 (by decide) ?_
    exact pw_reti S hr hlk () w ⟨none, hfx, rfl⟩ (by decide) (by decide) dM_missing_29

set_option maxHeartbeats 4000000 in
set_option maxRecDepth 100000 in
/-- the reference: has -/
theorem pm_c_has (l : Launch) (D : va_G) (m0 : Nat) (ad : Nat → Nat) (cI : ClassId) (cd : Int32) (mt : Nat) (mf : Nat) (fd : Nat → Int32) (ct : Nat) (sc : Nat → Int32) (gl : Nat → Int32) (nu : Nat → Int32) (si : Nat → Int32) (wh : Nat → Int32) (pl : Nat → Int32) (sm : Int32) (ms : Int32) (mg : Int32) (mn : Int32) (mk : Int32) (md : Nat → Int32) (sz : Nat) (hct : ct ≤ 4) (wn : Nat → Nat) (hw : ∀ q, q < ct → wh q = nI (wn q) ∧ wn q ≤ 1480) (a b d3 i : Int32) : pw_Mi l yM_has cM_has 6 .boolean ({ frames := 1, cells := 0, slots := 0, locals := 60 }) D [(cI, .int)] [.ref m0, .int a, .int b, .int d3, .int i] (pm_W m0 ad cI cd mt mf fd ct sc gl nu si wh pl sm ms mg mn mk md) sz (σ := Unit) (fun r _ => ∃ x, pm_fnd sc gl nu ct a b d3 x ∧ ((r = 1 ∧ pm_hs pl wn i x) ∨ (r = 0 ∧ ¬ pm_hs pl wn i x))) (fun _ => pm_W m0 ad cI 0 mt mf fd ct sc gl nu si wh pl sm ms mg mn mk md) 0 0 := by
  refine pw_openI (by decide) (Nat.le_of_ble_eq_true rfl) ?_
  intro p e s m below meth c ls S hr hlk hl hsz w
  obtain ⟨hx, hb, hml, hown, hts⟩ := id S
  have hl : lv_has ls 6 [(0, .ref m0), (1, .int a), (2, .int b), (3, .int d3), (4, .int i)] := hl
  generalize va_A (pm_W m0 ad cI cd mt mf fd ct sc gl nu si wh pl sm ms mg mn mk md) sz = A at w ⊢
  refine lv_aload_n hx hb dM_has_0 rfl (lv_at hl 0 rfl) ?_
  refine lv_iconst (v := 0) hx hb dM_has_1 (by decide) ?_
  refine pw_put S w pm_FM 0 (fs := [.int cd, .int (nI mt), .int (nI mf), .ref (ad 0), .int (nI ct), .ref (ad 1), .ref (ad 2), .ref (ad 3), .ref (ad 4), .ref (ad 5), .ref (ad 6), .int sm, .int ms, .int mg, .int mn, .int mk, .ref (ad 7)]) rfl 0 (by decide) eM_34 rfl (v := .int 0) rfl rfl (Nat.le_of_ble_eq_true rfl) dM_has_2 (fun H locs w => ?_)
  have w : pw_S D [(cI, .int)] A (pm_W m0 ad cI 0 mt mf fd ct sc gl nu si wh pl sm ms mg mn mk md) s _ _ := w
  refine lv_aload_n hx hb dM_has_5 rfl (lv_at hl 0 rfl) ?_
  refine lv_iload_n hx hb dM_has_6 rfl (lv_at hl 1 rfl) ?_
  refine lv_iload_n hx hb dM_has_7 rfl (lv_at hl 2 rfl) ?_
  refine lv_iload_n hx hb dM_has_8 rfl (lv_at hl 3 rfl) ?_
  refine pw_goi0 w.all (va_runV (C := RM) (As := [.int a, .int b, .int d3]) (rest := []) S (pm_c_find l D m0 ad cI 0 mt mf fd ct sc gl nu si wh pl sm ms mg mn mk md _ hct a b d3) (pw_cw (n := 3) S eM_69 iM_find sM_find iniM kM_find rfl rfl (by decide +kernel) ⟨by decide, by decide⟩) ⟨pw_blind, va_recv w.1 w.2.1 (ci := cM) (q0 := 0) rfl rfl, pw_pre w.all w.1⟩ rfl rfl hl.1 rfl (lv_room (Nat.le_of_ble_eq_true rfl)) dM_has_9 ⟨Nat.zero_le _, Nat.zero_le _⟩) (fun r u H locs hp w => ?_)
  have w := w.one
  obtain ⟨x, hfx, rfl⟩ := hp
  refine lv_istore (lv' := [(5, .int (px_ix x)), (0, .ref m0), (1, .int a), (2, .int b), (3, .int d3), (4, .int i)]) hx hb dM_has_12 hl (by decide) rfl (fun ls hl => ?_)
  refine lv_iload hx hb dM_has_14 (lv_at hl 0 rfl) ?_
  refine lv_if_lt (tgt := 57) hx hb dM_has_16 (by decide) (fun h1 => ?_) (fun h1 => ?_)
  · have hx0 : x = none := by cases x with | none => rfl | some k => exact absurd h1 (nI_pos (show k < 2 ^ 31 by have := hfx.1; omega))
    subst hx0
    refine lv_iconst (v := 0) hx hb dM_has_57 (by decide) ?_
    exact pw_retz S hr hlk () rfl w ⟨none, hfx, Or.inr ⟨rfl, fun q => q⟩⟩ (by decide) (by decide) dM_has_58
  · obtain ⟨k, rfl⟩ : ∃ k, x = some k := by cases x with | none => exact absurd (by decide) h1 | some k => exact ⟨k, rfl⟩
    obtain ⟨hwk, hwk2⟩ := hw k hfx.1
    have hk4 : k < 4 := by have := hfx.1; omega
    have hl : lv_has ls 6 [(5, .int (nI k)), (0, .ref m0), (1, .int a), (2, .int b), (3, .int d3), (4, .int i)] := hl
    refine lv_iload hx hb dM_has_19 (lv_at hl 5 rfl) ?_
    refine lv_if_lt (tgt := 57) hx hb dM_has_21 (by decide) (fun h2 => ?_) (fun h2 => ?_)
    · refine lv_iconst (v := 0) hx hb dM_has_57 (by decide) ?_
      exact pw_retz S hr hlk () rfl w ⟨some k, hfx, Or.inr ⟨rfl, fun q => q.1 h2⟩⟩ (by decide) (by decide) dM_has_58
    · refine lv_iload hx hb dM_has_24 (lv_at hl 5 rfl) ?_
      refine lv_aload_n hx hb dM_has_26 rfl (lv_at hl 1 rfl) ?_
      refine pw_get S w pm_FM 0 rfl 9 (by decide) eM_25 (v := .ref (ad 5)) rfl dM_has_27 ?_
      refine lv_iload hx hb dM_has_30 (lv_at hl 0 rfl) ?_
      refine pw_iald S w 6 0 (a := ad 5) (f := wh) (n := 5) (cA := cI) rfl rfl (j := k) (by omega) (by decide) dM_has_32 ?_
      refine pw_top (y := nI (wn k)) hwk ?_
      refine lv_icmp_ge (tgt := 57) hx hb dM_has_33 (by decide) (fun h3 => ?_) (fun h3 => ?_)
      · refine lv_iconst (v := 0) hx hb dM_has_57 (by decide) ?_
        exact pw_retz S hr hlk () rfl w ⟨some k, hfx, Or.inr ⟨rfl, fun q => q.2.1 h3⟩⟩ (by decide) (by decide) dM_has_58
      · obtain ⟨i9, hi9, rfl⟩ := nI_of h2
        have hlt : i9 < wn k := Nat.lt_of_not_le (fun q => h3 (nI_le q (by omega)))
        refine lv_aload_n hx hb dM_has_36 rfl (lv_at hl 1 rfl) ?_
        refine pw_get S w pm_FM 0 rfl 10 (by decide) eM_28 (v := .ref (ad 6)) rfl dM_has_37 ?_
        refine lv_sipush (v := 1480) hx hb dM_has_40 (by decide) ?_
        refine lv_iload hx hb dM_has_43 (lv_at hl 0 rfl) ?_
        refine lv_imul hx hb dM_has_45 ?_
        refine lv_iload hx hb dM_has_46 (lv_at hl 5 rfl) ?_
        refine lv_iadd hx hb dM_has_48 ?_
        refine pw_top (y := nI (1480 * k + i9)) (pm_ix k i9) ?_
        refine pw_iald S w 7 0 (a := ad 6) (f := pl) (n := 7400) (cA := cI) rfl rfl (j := 1480 * k + i9) (by omega) (by decide) dM_has_49 ?_
        refine lv_if_lt (tgt := 57) hx hb dM_has_50 (by decide) (fun h4 => ?_) (fun h4 => ?_)
        · refine lv_iconst (v := 0) hx hb dM_has_57 (by decide) ?_
          exact pw_retz S hr hlk () rfl w ⟨some k, hfx, Or.inr ⟨rfl, fun q => q.2.2 (by rw [nI_clamp hi9]; exact h4)⟩⟩ (by decide) (by decide) dM_has_58
        · refine lv_iconst (v := 1) hx hb dM_has_53 (by decide) ?_
          refine lv_goto (tgt := 58) hx hb dM_has_54 (by decide) ?_
          exact pw_retz S hr hlk () rfl w ⟨some k, hfx, Or.inl ⟨rfl, h2, h3, by rw [nI_clamp hi9]; exact h4⟩⟩ (by decide) (by decide) dM_has_58
