set_option maxHeartbeats 4000000 in
set_option maxRecDepth 100000 in
/-- the reference: piece -/
theorem pm_c_piece (l : Launch) (D : va_G) (m0 : Nat) (ad : Nat → Nat) (cI : ClassId) (cd : Int32) (mt : Nat) (mf : Nat) (fd : Nat → Int32) (ct : Nat) (sc : Nat → Int32) (gl : Nat → Int32) (nu : Nat → Int32) (si : Nat → Int32) (wh : Nat → Int32) (pl : Nat → Int32) (sm : Int32) (ms : Int32) (mg : Int32) (mn : Int32) (mk : Int32) (md : Nat → Int32) (sz : Nat) (hmf : mf ≤ 1480) (hct : ct ≤ 4) (a b d3 fm wl : Int32) : pw_Mi l yM_piece cM_piece 10 .int ({ frames := 2, cells := 0, slots := 0, locals := 120 }) D [(cI, .int)] [.ref m0, .int a, .int b, .int d3, .int fm, .int wl] (pm_W m0 ad cI cd mt mf fd ct sc gl nu si wh pl sm ms mg mn mk md) sz (σ := Int32 × Nat × pm_R) (fun r u => (u = (1, mf, ct, sc, gl, nu, si, wh, pl, sm, ms, mg, mn, mk, md) ∧ ¬ (1 ≤ wl.toInt ∧ wl.toInt ≤ 1480 ∧ 0 ≤ fm.toInt)) ∨ (u = (2, mf, ct, sc, gl, nu, si, wh, pl, sm, ms, mg, mn, mk, md) ∧ (1 ≤ wl.toInt ∧ wl.toInt ≤ 1480 ∧ 0 ≤ fm.toInt) ∧ ¬ (0 < mf ∧ fm.toInt + mf ≤ wl.toInt)) ∨ ∃ (fr w0 : Nat) (x : Option Nat), fm = nI fr ∧ wl = nI w0 ∧ 1 ≤ w0 ∧ w0 ≤ 1480 ∧ 0 < mf ∧ fr + mf ≤ w0 ∧ pm_fnd sc gl nu ct a b d3 x ∧ u.1 = 0 ∧ u.2.1 = 0 ∧ (r, u.2.2) = pm_pc fd mf fr w0 a b d3 wl mt ct sc gl nu si wh pl sm ms mg mn mk md x) (fun u => pm_W m0 ad cI u.1 mt u.2.1 fd u.2.2.1 u.2.2.2.1 u.2.2.2.2.1 u.2.2.2.2.2.1 u.2.2.2.2.2.2.1 u.2.2.2.2.2.2.2.1 u.2.2.2.2.2.2.2.2.1 u.2.2.2.2.2.2.2.2.2.1 u.2.2.2.2.2.2.2.2.2.2.1 u.2.2.2.2.2.2.2.2.2.2.2.1 u.2.2.2.2.2.2.2.2.2.2.2.2.1 u.2.2.2.2.2.2.2.2.2.2.2.2.2.1 u.2.2.2.2.2.2.2.2.2.2.2.2.2.2) 0 0 := by
  refine pw_openI (by decide) (Nat.le_of_ble_eq_true rfl) ?_
  intro p e s m below meth c ls S hr hlk hl hsz w
  obtain ⟨hx, hb, hml, hown, hts⟩ := id S
  have hl : lv_has ls 10 [(0, .ref m0), (1, .int a), (2, .int b), (3, .int d3), (4, .int fm), (5, .int wl)] := hl
  generalize va_A (pm_W m0 ad cI cd mt mf fd ct sc gl nu si wh pl sm ms mg mn mk md) sz = A at w ⊢
  refine lv_aload_n hx hb dM_piece_0 rfl (lv_at hl 0 rfl) ?_
  refine lv_iload hx hb dM_piece_1 (lv_at hl 5 rfl) ?_
  refine lv_iconst (v := 1) hx hb dM_piece_3 (by decide) ?_
  refine lv_icmp_lt (tgt := 20) hx hb dM_piece_4 (by decide) (fun h1 => ?_) (fun h1 => ?_)
  · refine lv_iconst (v := 1) hx hb dM_piece_20 (by decide) ?_
    refine lv_goto (tgt := 48) hx hb dM_piece_21 (by decide) ?_
    refine pw_put S w pm_FM 0 (fs := [.int cd, .int (nI mt), .int (nI mf), .ref (ad 0), .int (nI ct), .ref (ad 1), .ref (ad 2), .ref (ad 3), .ref (ad 4), .ref (ad 5), .ref (ad 6), .int sm, .int ms, .int mg, .int mn, .int mk, .ref (ad 7)]) rfl 0 (by decide) eM_34 rfl (v := .int 1) rfl rfl (Nat.le_of_ble_eq_true rfl) dM_piece_48 (fun H locs w => ?_)
    have w : pw_S D [(cI, .int)] A (pm_W m0 ad cI 1 mt mf fd ct sc gl nu si wh pl sm ms mg mn mk md) s _ _ := w
    refine lv_aload_n hx hb dM_piece_51 rfl (lv_at hl 0 rfl) ?_
    refine pw_get S w pm_FM 0 rfl 0 (by decide) eM_34 (v := .int 1) rfl dM_piece_52 ?_
    refine lv_if_le (tgt := 60) hx hb dM_piece_55 (by decide) (fun h9 => absurd h9 (by decide)) (fun _ => ?_)
    refine lv_iconst (v := 0) hx hb dM_piece_58 (by decide) ?_
    exact pw_reti S hr hlk (1, mf, ct, sc, gl, nu, si, wh, pl, sm, ms, mg, mn, mk, md) w (Or.inl ⟨rfl, fun q => absurd q.1 (by have h9 := Int32.lt_iff_toInt_lt.mp h1; have : (1 : Int32).toInt = 1 := rfl; omega)⟩) (by decide) (by decide) dM_piece_59
  · refine lv_iload hx hb dM_piece_7 (lv_at hl 5 rfl) ?_
    refine lv_sipush (v := 1480) hx hb dM_piece_9 (by decide) ?_
    refine lv_icmp_gt (tgt := 20) hx hb dM_piece_12 (by decide) (fun h2 => ?_) (fun h2 => ?_)
    · refine lv_iconst (v := 1) hx hb dM_piece_20 (by decide) ?_
      refine lv_goto (tgt := 48) hx hb dM_piece_21 (by decide) ?_
      refine pw_put S w pm_FM 0 (fs := [.int cd, .int (nI mt), .int (nI mf), .ref (ad 0), .int (nI ct), .ref (ad 1), .ref (ad 2), .ref (ad 3), .ref (ad 4), .ref (ad 5), .ref (ad 6), .int sm, .int ms, .int mg, .int mn, .int mk, .ref (ad 7)]) rfl 0 (by decide) eM_34 rfl (v := .int 1) rfl rfl (Nat.le_of_ble_eq_true rfl) dM_piece_48 (fun H locs w => ?_)
      have w : pw_S D [(cI, .int)] A (pm_W m0 ad cI 1 mt mf fd ct sc gl nu si wh pl sm ms mg mn mk md) s _ _ := w
      refine lv_aload_n hx hb dM_piece_51 rfl (lv_at hl 0 rfl) ?_
      refine pw_get S w pm_FM 0 rfl 0 (by decide) eM_34 (v := .int 1) rfl dM_piece_52 ?_
      refine lv_if_le (tgt := 60) hx hb dM_piece_55 (by decide) (fun h9 => absurd h9 (by decide)) (fun _ => ?_)
      refine lv_iconst (v := 0) hx hb dM_piece_58 (by decide) ?_
      exact pw_reti S hr hlk (1, mf, ct, sc, gl, nu, si, wh, pl, sm, ms, mg, mn, mk, md) w (Or.inl ⟨rfl, fun q => absurd q.2.1 (by have h9 := Int32.lt_iff_toInt_lt.mp h2; have : (1480 : Int32).toInt = 1480 := rfl; omega)⟩) (by decide) (by decide) dM_piece_59
    · refine lv_iload hx hb dM_piece_15 (lv_at hl 4 rfl) ?_
      refine lv_if_ge (tgt := 24) hx hb dM_piece_17 (by decide) (fun h3 => ?_) (fun h3 => ?_)
      · have hw1 : 1 ≤ wl.toInt := by have h9 := pw_nlt h1; have : (1 : Int32).toInt = 1 := rfl; omega
        have hw2 : wl.toInt ≤ 1480 := by have h9 := pw_nlt h2; have : (1480 : Int32).toInt = 1480 := rfl; omega
        have hf0 : 0 ≤ fm.toInt := by have h9 := Int32.le_iff_toInt_le.mp h3; have : (0 : Int32).toInt = 0 := rfl; omega
        obtain ⟨w0, hw0, ewl⟩ := nI_of (x := wl) (by rw [Int32.lt_iff_toInt_lt]; have : (0 : Int32).toInt = 0 := rfl; omega)
        obtain ⟨fr, hfr, efm⟩ := nI_of (x := fm) (by rw [Int32.lt_iff_toInt_lt]; have : (0 : Int32).toInt = 0 := rfl; omega)
        have ewi : wl.toInt = w0 := by rw [ewl, nI_toInt hw0]
        have efi : fm.toInt = fr := by rw [efm, nI_toInt hfr]
        clear h1 h2 h3
        refine lv_aload_n hx hb dM_piece_24 rfl (lv_at hl 0 rfl) ?_
        refine pw_get S w pm_FM 0 rfl 2 (by decide) eM_38 (v := .int (nI mf)) rfl dM_piece_25 ?_
        refine lv_if_eq (tgt := 43) hx hb dM_piece_28 (by decide) (fun h1 => ?_) (fun h1 => ?_)
        · have h9 : mf = 0 := (nI_eq (a := mf) (b := 0) (by omega) (by decide)).mp h1
          refine lv_iconst (v := 2) hx hb dM_piece_43 (by decide) ?_
          refine lv_goto (tgt := 48) hx hb dM_piece_44 (by decide) ?_
          refine pw_put S w pm_FM 0 (fs := [.int cd, .int (nI mt), .int (nI mf), .ref (ad 0), .int (nI ct), .ref (ad 1), .ref (ad 2), .ref (ad 3), .ref (ad 4), .ref (ad 5), .ref (ad 6), .int sm, .int ms, .int mg, .int mn, .int mk, .ref (ad 7)]) rfl 0 (by decide) eM_34 rfl (v := .int 2) rfl rfl (Nat.le_of_ble_eq_true rfl) dM_piece_48 (fun H locs w => ?_)
          have w : pw_S D [(cI, .int)] A (pm_W m0 ad cI 2 mt mf fd ct sc gl nu si wh pl sm ms mg mn mk md) s _ _ := w
          refine lv_aload_n hx hb dM_piece_51 rfl (lv_at hl 0 rfl) ?_
          refine pw_get S w pm_FM 0 rfl 0 (by decide) eM_34 (v := .int 2) rfl dM_piece_52 ?_
          refine lv_if_le (tgt := 60) hx hb dM_piece_55 (by decide) (fun h9 => absurd h9 (by decide)) (fun _ => ?_)
          refine lv_iconst (v := 0) hx hb dM_piece_58 (by decide) ?_
          exact pw_reti S hr hlk (2, mf, ct, sc, gl, nu, si, wh, pl, sm, ms, mg, mn, mk, md) w (Or.inr (Or.inl ⟨rfl, ⟨hw1, hw2, hf0⟩, fun q => by omega⟩)) (by decide) (by decide) dM_piece_59
        · have hmf0 : 0 < mf := Nat.pos_of_ne_zero (fun q => h1 (by rw [q]; rfl))
          have h8 : (wl - nI mf).toInt = (w0 : Int) - mf := by rw [ewl]; exact pk_sub_toInt (by omega) (by omega)
          refine lv_iload hx hb dM_piece_31 (lv_at hl 4 rfl) ?_
          refine lv_iload hx hb dM_piece_33 (lv_at hl 5 rfl) ?_
          refine lv_aload_n hx hb dM_piece_35 rfl (lv_at hl 0 rfl) ?_
          refine pw_get S w pm_FM 0 rfl 2 (by decide) eM_38 (v := .int (nI mf)) rfl dM_piece_36 ?_
          refine lv_isub hx hb dM_piece_39 ?_
          refine lv_icmp_le (tgt := 47) hx hb dM_piece_40 (by decide) (fun h2 => ?_) (fun h2 => ?_)
          · have h9 := Int32.le_iff_toInt_le.mp h2
            have hfit : fr + mf ≤ w0 := by rw [h8] at h9; omega
            clear h9 h8 h2 h1
            refine lv_iconst (v := 0) hx hb dM_piece_47 (by decide) ?_
            refine pw_put S w pm_FM 0 (fs := [.int cd, .int (nI mt), .int (nI mf), .ref (ad 0), .int (nI ct), .ref (ad 1), .ref (ad 2), .ref (ad 3), .ref (ad 4), .ref (ad 5), .ref (ad 6), .int sm, .int ms, .int mg, .int mn, .int mk, .ref (ad 7)]) rfl 0 (by decide) eM_34 rfl (v := .int 0) rfl rfl (Nat.le_of_ble_eq_true rfl) dM_piece_48 (fun H locs w => ?_)
            have w : pw_S D [(cI, .int)] A (pm_W m0 ad cI 0 mt mf fd ct sc gl nu si wh pl sm ms mg mn mk md) s _ _ := w
            refine lv_aload_n hx hb dM_piece_51 rfl (lv_at hl 0 rfl) ?_
            refine pw_get S w pm_FM 0 rfl 0 (by decide) eM_34 (v := .int 0) rfl dM_piece_52 ?_
            refine lv_if_le (tgt := 60) hx hb dM_piece_55 (by decide) (fun _ => ?_) (fun h9 => absurd (by decide) h9)
            refine lv_aload_n hx hb dM_piece_60 rfl (lv_at hl 0 rfl) ?_
            refine pw_get S w pm_FM 0 rfl 2 (by decide) eM_38 (v := .int (nI mf)) rfl dM_piece_61 ?_
            refine lv_istore (lv' := [(6, .int (nI mf)), (0, .ref m0), (1, .int a), (2, .int b), (3, .int d3), (4, .int fm), (5, .int wl)]) hx hb dM_piece_64 hl (by decide) rfl (fun ls hl => ?_)
            refine lv_aload_n hx hb dM_piece_66 rfl (lv_at hl 1 rfl) ?_
            refine lv_iconst (v := 0) hx hb dM_piece_67 (by decide) ?_
            refine pw_top (y := nI 0) rfl ?_
            refine pw_put S w pm_FM 0 (fs := [.int 0, .int (nI mt), .int (nI mf), .ref (ad 0), .int (nI ct), .ref (ad 1), .ref (ad 2), .ref (ad 3), .ref (ad 4), .ref (ad 5), .ref (ad 6), .int sm, .int ms, .int mg, .int mn, .int mk, .ref (ad 7)]) rfl 2 (by decide) eM_38 rfl (v := .int (nI 0)) rfl rfl (Nat.le_of_ble_eq_true rfl) dM_piece_68 (fun H locs w => ?_)
            have w : pw_S D [(cI, .int)] A (pm_W m0 ad cI 0 mt 0 fd ct sc gl nu si wh pl sm ms mg mn mk md) s _ _ := w
            refine lv_aload_n hx hb dM_piece_71 rfl (lv_at hl 1 rfl) ?_
            refine lv_iload_n hx hb dM_piece_72 rfl (lv_at hl 2 rfl) ?_
            refine lv_iload_n hx hb dM_piece_73 rfl (lv_at hl 3 rfl) ?_
            refine lv_iload_n hx hb dM_piece_74 rfl (lv_at hl 4 rfl) ?_
            have tail : ∀ (k ct1 : Nat) (sc1 gl1 nu1 si1 wh1 pl1 : Nat → Int32), k < ct1 → ct1 ≤ 4 → wh1 k = nI w0 → (∃ x, pm_fnd sc gl nu ct a b d3 x ∧ pm_tk fd mf fr k w0 ct1 sc1 gl1 nu1 si1 wh1 pl1 sm ms mg mn mk md = pm_pc fd mf fr w0 a b d3 wl mt ct sc gl nu si wh pl sm ms mg mn mk md x) → ∀ (H : Heap) (locs : List Loc), pw_S D [(cI, .int)] A (pm_W m0 ad cI 0 mt 0 fd ct1 sc1 gl1 nu1 si1 wh1 pl1 sm ms mg mn mk md) s H locs → ∀ (ls : Array Slot), lv_has ls 10 [(7, .int (nI k)), (6, .int (nI mf)), (0, .ref m0), (1, .int a), (2, .int b), (3, .int d3), (4, .int fm), (5, .int wl)] → W p l e ({ frames := 2, cells := 0, slots := 0, locals := 120 }) s m #[Value.ref m0, Value.int a, Value.int b, Value.int d3, Value.int fm, Value.int wl] below meth c H locs 0 0 (MQ below (va_Qi (S := Int32 × Nat × pm_R) (fun r u => (u = (1, mf, ct, sc, gl, nu, si, wh, pl, sm, ms, mg, mn, mk, md) ∧ ¬ (1 ≤ wl.toInt ∧ wl.toInt ≤ 1480 ∧ 0 ≤ fm.toInt)) ∨ (u = (2, mf, ct, sc, gl, nu, si, wh, pl, sm, ms, mg, mn, mk, md) ∧ (1 ≤ wl.toInt ∧ wl.toInt ≤ 1480 ∧ 0 ≤ fm.toInt) ∧ ¬ (0 < mf ∧ fm.toInt + mf ≤ wl.toInt)) ∨ ∃ (fr w0 : Nat) (x : Option Nat), fm = nI fr ∧ wl = nI w0 ∧ 1 ≤ w0 ∧ w0 ≤ 1480 ∧ 0 < mf ∧ fr + mf ≤ w0 ∧ pm_fnd sc gl nu ct a b d3 x ∧ u.1 = 0 ∧ u.2.1 = 0 ∧ (r, u.2.2) = pm_pc fd mf fr w0 a b d3 wl mt ct sc gl nu si wh pl sm ms mg mn mk md x) (pw_B D (fun u => pm_W m0 ad cI u.1 mt u.2.1 fd u.2.2.1 u.2.2.2.1 u.2.2.2.2.1 u.2.2.2.2.2.1 u.2.2.2.2.2.2.1 u.2.2.2.2.2.2.2.1 u.2.2.2.2.2.2.2.2.1 u.2.2.2.2.2.2.2.2.2.1 u.2.2.2.2.2.2.2.2.2.2.1 u.2.2.2.2.2.2.2.2.2.2.2.1 u.2.2.2.2.2.2.2.2.2.2.2.2.1 u.2.2.2.2.2.2.2.2.2.2.2.2.2.1 u.2.2.2.2.2.2.2.2.2.2.2.2.2.2) (fun _ => [(cI, .int)]) A) A) #[Value.ref m0, Value.int a, Value.int b, Value.int d3, Value.int fm, Value.int wl] s 0 0 A) (F0 m 121 ls []) := by
              intro k ct1 sc1 gl1 nu1 si1 wh1 pl1 hk hct1 hwk hres H locs w ls hl
              obtain ⟨x, hfx, hres⟩ := hres
              refine lv_iconst (v := 0) hx hb dM_piece_121 (by decide) ?_
              refine lv_istore (lv' := [(8, .int 0), (7, .int (nI k)), (6, .int (nI mf)), (0, .ref m0), (1, .int a), (2, .int b), (3, .int d3), (4, .int fm), (5, .int wl)]) hx hb dM_piece_122 hl (by decide) rfl (fun ls hl => ?_)
              have loop : ∀ (n : Nat) (i : Nat), i ≤ mf → mf < i + n → ∀ (H : Heap) (locs : List Loc), pw_S D [(cI, .int)] A (pm_W m0 ad cI 0 mt 0 fd ct1 sc1 gl1 nu1 si1 wh1 (pm_tB pl1 fd (1480 * k + fr) i) sm ms mg mn mk md) s H locs → ∀ (ls : Array Slot), lv_has ls 10 [(8, .int (nI i)), (7, .int (nI k)), (6, .int (nI mf)), (0, .ref m0), (1, .int a), (2, .int b), (3, .int d3), (4, .int fm), (5, .int wl)] → W p l e ({ frames := 2, cells := 0, slots := 0, locals := 120 }) s m #[Value.ref m0, Value.int a, Value.int b, Value.int d3, Value.int fm, Value.int wl] below meth c H locs 0 0 (MQ below (va_Qi (S := Int32 × Nat × pm_R) (fun r u => (u = (1, mf, ct, sc, gl, nu, si, wh, pl, sm, ms, mg, mn, mk, md) ∧ ¬ (1 ≤ wl.toInt ∧ wl.toInt ≤ 1480 ∧ 0 ≤ fm.toInt)) ∨ (u = (2, mf, ct, sc, gl, nu, si, wh, pl, sm, ms, mg, mn, mk, md) ∧ (1 ≤ wl.toInt ∧ wl.toInt ≤ 1480 ∧ 0 ≤ fm.toInt) ∧ ¬ (0 < mf ∧ fm.toInt + mf ≤ wl.toInt)) ∨ ∃ (fr w0 : Nat) (x : Option Nat), fm = nI fr ∧ wl = nI w0 ∧ 1 ≤ w0 ∧ w0 ≤ 1480 ∧ 0 < mf ∧ fr + mf ≤ w0 ∧ pm_fnd sc gl nu ct a b d3 x ∧ u.1 = 0 ∧ u.2.1 = 0 ∧ (r, u.2.2) = pm_pc fd mf fr w0 a b d3 wl mt ct sc gl nu si wh pl sm ms mg mn mk md x) (pw_B D (fun u => pm_W m0 ad cI u.1 mt u.2.1 fd u.2.2.1 u.2.2.2.1 u.2.2.2.2.1 u.2.2.2.2.2.1 u.2.2.2.2.2.2.1 u.2.2.2.2.2.2.2.1 u.2.2.2.2.2.2.2.2.1 u.2.2.2.2.2.2.2.2.2.1 u.2.2.2.2.2.2.2.2.2.2.1 u.2.2.2.2.2.2.2.2.2.2.2.1 u.2.2.2.2.2.2.2.2.2.2.2.2.1 u.2.2.2.2.2.2.2.2.2.2.2.2.2.1 u.2.2.2.2.2.2.2.2.2.2.2.2.2.2) (fun _ => [(cI, .int)]) A) A) #[Value.ref m0, Value.int a, Value.int b, Value.int d3, Value.int fm, Value.int wl] s 0 0 A) (F0 m 124 ls []) := by
                intro n
                induction n with
                | zero => intros; omega
                | succ n ih =>
                  intro i hi hn H locs w ls hl
                  refine lv_iload hx hb dM_piece_124 (lv_at hl 0 rfl) ?_
                  refine lv_iload hx hb dM_piece_126 (lv_at hl 2 rfl) ?_
                  refine lv_icmp_ge (tgt := 185) hx hb dM_piece_128 (by decide) (fun h1 => ?_) (fun h1 => ?_)
                  · have e9 : mf = i := by have := (nI_leI (a := mf) (b := i) (by omega) (by omega)).mp h1; omega
                    subst e9
                    refine lv_aload_n hx hb dM_piece_185 rfl (lv_at hl 3 rfl) ?_
                    refine lv_iload hx hb dM_piece_186 (lv_at hl 1 rfl) ?_
                    refine pw_goi0 w.all (va_runV (C := RM) (As := [.int (nI k)]) (rest := []) S (pm_c_lacks l D m0 ad cI 0 mt 0 fd ct1 sc1 gl1 nu1 si1 wh1 (pm_tB pl1 fd (1480 * k + fr) mf) sm ms mg mn mk md _ k (by omega) w0 hwk (by omega)) (pw_cw (n := 1) S eM_77 iM_lacks sM_lacks iniM kM_lacks rfl rfl (by decide +kernel) ⟨by decide, by decide⟩) ⟨pw_blind, va_recv w.1 w.2.1 (ci := cM) (q0 := 0) rfl rfl, pw_pre w.all w.1⟩ rfl rfl hl.1 rfl (lv_room (Nat.le_of_ble_eq_true rfl)) dM_piece_188 ⟨Nat.zero_le _, Nat.zero_le _⟩) (fun r u H locs hp w => ?_)
                    have w := w.one
                    subst hp
                    refine lv_if_le (tgt := 196) hx hb dM_piece_191 (by decide) (fun h2 => ?_) (fun h2 => ?_)
                    · have hc0 : pm_c (fun i9 => pm_tB pl1 fd (1480 * k + fr) mf (1480 * k + i9)) w0 = 0 := by have := (nI_leI (a := pm_c (fun i9 => pm_tB pl1 fd (1480 * k + fr) mf (1480 * k + i9)) w0) (b := 0) (by have := pm_c_le (fun i9 => pm_tB pl1 fd (1480 * k + fr) mf (1480 * k + i9)) w0; omega) (by decide)).mp h2; omega
                      refine lv_aload_n hx hb dM_piece_196 rfl (lv_at hl 3 rfl) ?_
                      refine lv_iload hx hb dM_piece_197 (lv_at hl 1 rfl) ?_
                      refine pw_gov0 w.all (va_runV (C := RM) (As := [.int (nI k)]) (rest := []) S (pm_c_finish l D m0 ad cI 0 mt 0 fd ct1 sc1 gl1 nu1 si1 wh1 (pm_tB pl1 fd (1480 * k + fr) mf) sm ms mg mn mk md _ k hk hct1 w0 hwk (by omega)) (pw_cw (n := 1) S eM_81 iM_finish sM_finish iniM kM_finish rfl rfl (by decide +kernel) ⟨by decide, by decide⟩) ⟨pw_blind, va_recv w.1 w.2.1 (ci := cM) (q0 := 0) rfl rfl, pw_pre w.all w.1⟩ rfl rfl hl.1 rfl (lv_room (Nat.le_of_ble_eq_true rfl)) dM_piece_199 ⟨Nat.zero_le _, Nat.zero_le _⟩) (fun  u H locs _ _ w => ?_)
                      have w := w.one
                      refine lv_iconst (v := 1) hx hb dM_piece_202 (by decide) ?_
                      exact pw_reti S hr hlk (0, 0, ct1 - 1, pm_s1 sc1 k (ct1 - 1), pm_s1 gl1 k (ct1 - 1), pm_s1 nu1 k (ct1 - 1), pm_s1 si1 k (ct1 - 1), pm_s1 wh1 k (ct1 - 1), pm_s2 (pm_tB pl1 fd (1480 * k + fr) mf) (1480 * k) (1480 * (ct1 - 1)), 1, sc1 k, gl1 k, nu1 k, wh1 k, pm_cp md (pm_tB pl1 fd (1480 * k + fr) mf) (1480 * k) w0) w (Or.inr (Or.inr ⟨fr, w0, x, efm, ewl, by omega, by omega, hmf0, hfit, hfx, rfl, rfl, hres ▸ (if_pos hc0).symm⟩)) (by decide) (by decide) dM_piece_203
                    · have hc0 : ¬ pm_c (fun i9 => pm_tB pl1 fd (1480 * k + fr) mf (1480 * k + i9)) w0 = 0 := fun q => h2 (by rw [q]; exact nI_le (Nat.le_refl 0) (by decide))
                      refine lv_iconst (v := 0) hx hb dM_piece_194 (by decide) ?_
                      exact pw_reti S hr hlk (0, 0, ct1, sc1, gl1, nu1, si1, wh1, pm_tB pl1 fd (1480 * k + fr) mf, sm, ms, mg, mn, mk, md) w (Or.inr (Or.inr ⟨fr, w0, x, efm, ewl, by omega, by omega, hmf0, hfit, hfx, rfl, rfl, hres ▸ (if_neg hc0).symm⟩)) (by decide) (by decide) dM_piece_195
                  · have hlt : i < mf := Nat.lt_of_not_le (fun q => h1 ((nI_leI (a := mf) (b := i) (by omega) (by omega)).mpr q))
                    refine lv_sipush (v := 1480) hx hb dM_piece_131 (by decide) ?_
                    refine lv_iload hx hb dM_piece_134 (lv_at hl 1 rfl) ?_
                    refine lv_imul hx hb dM_piece_136 ?_
                    refine lv_iload hx hb dM_piece_137 (lv_at hl 7 rfl) ?_
                    refine lv_iadd hx hb dM_piece_139 ?_
                    refine lv_iload hx hb dM_piece_140 (lv_at hl 0 rfl) ?_
                    refine lv_iadd hx hb dM_piece_142 ?_
                    refine pw_top (y := nI (1480 * k + fr + i)) (by rw [efm]; exact pm_ix3 k fr i) ?_
                    refine lv_istore (lv' := [(9, .int (nI (1480 * k + fr + i))), (8, .int (nI i)), (7, .int (nI k)), (6, .int (nI mf)), (0, .ref m0), (1, .int a), (2, .int b), (3, .int d3), (4, .int fm), (5, .int wl)]) hx hb dM_piece_143 hl (by decide) rfl (fun ls hl => ?_)
                    refine lv_aload_n hx hb dM_piece_145 rfl (lv_at hl 4 rfl) ?_
                    refine pw_get S w pm_FM 0 rfl 10 (by decide) eM_28 (v := .ref (ad 6)) rfl dM_piece_146 ?_
                    refine lv_iload hx hb dM_piece_149 (lv_at hl 0 rfl) ?_
                    refine lv_aload_n hx hb dM_piece_151 rfl (lv_at hl 4 rfl) ?_
                    refine pw_get S w pm_FM 0 rfl 10 (by decide) eM_28 (v := .ref (ad 6)) rfl dM_piece_152 ?_
                    refine lv_iload hx hb dM_piece_155 (lv_at hl 0 rfl) ?_
                    refine pw_iald S w 7 0 (a := ad 6) (f := pm_tB pl1 fd (1480 * k + fr) i) (n := 7400) (cA := cI) rfl rfl (j := 1480 * k + fr + i) (by omega) (by decide) dM_piece_157 ?_
                    refine lv_if_ge (tgt := 171) hx hb dM_piece_158 (by decide) (fun h2 => ?_) (fun h2 => ?_)
                    · refine lv_aload_n hx hb dM_piece_171 rfl (lv_at hl 4 rfl) ?_
                      refine pw_get S w pm_FM 0 rfl 10 (by decide) eM_28 (v := .ref (ad 6)) rfl dM_piece_172 ?_
                      refine lv_iload hx hb dM_piece_175 (lv_at hl 0 rfl) ?_
                      refine pw_iald S w 7 0 (a := ad 6) (f := pm_tB pl1 fd (1480 * k + fr) i) (n := 7400) (cA := cI) rfl rfl (j := 1480 * k + fr + i) (by omega) (by decide) dM_piece_177 ?_
                      refine pw_iast S w 7 0 (a := ad 6) (f := pm_tB pl1 fd (1480 * k + fr) i) (n := 7400) (cA := cI) rfl rfl (j := 1480 * k + fr + i) (by omega) (by decide) dM_piece_178 (fun H locs w => ?_)
                      have w : pw_S D [(cI, .int)] A (pm_W m0 ad cI 0 mt 0 fd ct1 sc1 gl1 nu1 si1 wh1 (upd (pm_tB pl1 fd (1480 * k + fr) i) (1480 * k + fr + i) ((pm_tB pl1 fd (1480 * k + fr) i) (1480 * k + fr + i))) sm ms mg mn mk md) s _ _ := w
                      have w : pw_S D [(cI, .int)] A (pm_W m0 ad cI 0 mt 0 fd ct1 sc1 gl1 nu1 si1 wh1 (pm_tB pl1 fd (1480 * k + fr) (i + 1)) sm ms mg mn mk md) s _ _ := w.to (by rw [show pm_tB pl1 fd (1480 * k + fr) (i + 1) = upd (pm_tB pl1 fd (1480 * k + fr) i) (1480 * k + fr + i) (pm_tB pl1 fd (1480 * k + fr) i (1480 * k + fr + i)) from congrArg (upd _ _) (if_neg (pm_nn h2))])
                      refine lv_iinc (v := nI (i + 1)) (lv' := [(8, .int (nI (i + 1))), (9, .int (nI (1480 * k + fr + i))), (7, .int (nI k)), (6, .int (nI mf)), (0, .ref m0), (1, .int a), (2, .int b), (3, .int d3), (4, .int fm), (5, .int wl)]) hx hb dM_piece_179 hl (k := 1) rfl (nI_1 i) (by decide) rfl (fun ls hl => ?_)
                      refine lv_goto (tgt := 124) hx hb dM_piece_182 (by decide) ?_
                      exact ih (i + 1) (by omega) (by omega) H locs w ls (lv_sub hl [0, 2, 3, 4, 5, 6, 7, 8, 9] rfl)
                    · refine lv_aload_n hx hb dM_piece_161 rfl (lv_at hl 4 rfl) ?_
                      refine pw_get S w pm_FM 0 rfl 3 (by decide) eM_7 (v := .ref (ad 0)) rfl dM_piece_162 ?_
                      refine lv_iload hx hb dM_piece_165 (lv_at hl 1 rfl) ?_
                      refine pw_iald S w 1 0 (a := ad 0) (f := fd) (n := 1480) (cA := cI) rfl rfl (j := i) (by omega) (by decide) dM_piece_167 ?_
                      refine lv_goto (tgt := 178) hx hb dM_piece_168 (by decide) ?_
                      refine pw_iast S w 7 0 (a := ad 6) (f := pm_tB pl1 fd (1480 * k + fr) i) (n := 7400) (cA := cI) rfl rfl (j := 1480 * k + fr + i) (by omega) (by decide) dM_piece_178 (fun H locs w => ?_)
                      have w : pw_S D [(cI, .int)] A (pm_W m0 ad cI 0 mt 0 fd ct1 sc1 gl1 nu1 si1 wh1 (upd (pm_tB pl1 fd (1480 * k + fr) i) (1480 * k + fr + i) (fd i)) sm ms mg mn mk md) s _ _ := w
                      have w : pw_S D [(cI, .int)] A (pm_W m0 ad cI 0 mt 0 fd ct1 sc1 gl1 nu1 si1 wh1 (pm_tB pl1 fd (1480 * k + fr) (i + 1)) sm ms mg mn mk md) s _ _ := w.to (by rw [show pm_tB pl1 fd (1480 * k + fr) (i + 1) = upd (pm_tB pl1 fd (1480 * k + fr) i) (1480 * k + fr + i) (fd i) from congrArg (upd _ _) (if_pos (pm_ng h2))])
                      refine lv_iinc (v := nI (i + 1)) (lv' := [(8, .int (nI (i + 1))), (9, .int (nI (1480 * k + fr + i))), (7, .int (nI k)), (6, .int (nI mf)), (0, .ref m0), (1, .int a), (2, .int b), (3, .int d3), (4, .int fm), (5, .int wl)]) hx hb dM_piece_179 hl (k := 1) rfl (nI_1 i) (by decide) rfl (fun ls hl => ?_)
                      refine lv_goto (tgt := 124) hx hb dM_piece_182 (by decide) ?_
                      exact ih (i + 1) (by omega) (by omega) H locs w ls (lv_sub hl [0, 2, 3, 4, 5, 6, 7, 8, 9] rfl)
              exact loop (mf + 1) 0 (by omega) (by omega) _ _ w ls hl
            refine pw_goi0 w.all (va_runV (C := RM) (As := [.int a, .int b, .int d3]) (rest := []) S (pm_c_find l D m0 ad cI 0 mt 0 fd ct sc gl nu si wh pl sm ms mg mn mk md _ hct a b d3) (pw_cw (n := 3) S eM_69 iM_find sM_find iniM kM_find rfl rfl (by decide +kernel) ⟨by decide, by decide⟩) ⟨pw_blind, va_recv w.1 w.2.1 (ci := cM) (q0 := 0) rfl rfl, pw_pre w.all w.1⟩ rfl rfl hl.1 rfl (lv_room (Nat.le_of_ble_eq_true rfl)) dM_piece_75 ⟨Nat.zero_le _, Nat.zero_le _⟩) (fun r u H locs hp w => ?_)
            have w := w.one
            obtain ⟨x, hfx, rfl⟩ := hp
            refine lv_istore (lv' := [(7, .int (px_ix x)), (6, .int (nI mf)), (0, .ref m0), (1, .int a), (2, .int b), (3, .int d3), (4, .int fm), (5, .int wl)]) hx hb dM_piece_78 hl (by decide) rfl (fun ls hl => ?_)
            refine lv_iload hx hb dM_piece_80 (lv_at hl 0 rfl) ?_
            refine lv_if_lt (tgt := 99) hx hb dM_piece_82 (by decide) (fun h1 => ?_) (fun h1 => ?_)
            · have hx0 : x = none := by cases x with | none => rfl | some k => exact absurd h1 (nI_pos (show k < 2 ^ 31 by have := hfx.1; omega))
              subst hx0
              refine lv_iload hx hb dM_piece_99 (lv_at hl 0 rfl) ?_
              refine lv_if_ge (tgt := 121) hx hb dM_piece_101 (by decide) (fun h9 => absurd h9 (by decide)) (fun _ => ?_)
              refine lv_aload_n hx hb dM_piece_104 rfl (lv_at hl 2 rfl) ?_
              refine lv_iload_n hx hb dM_piece_105 rfl (lv_at hl 3 rfl) ?_
              refine lv_iload_n hx hb dM_piece_106 rfl (lv_at hl 4 rfl) ?_
              refine lv_iload_n hx hb dM_piece_107 rfl (lv_at hl 5 rfl) ?_
              refine lv_iload hx hb dM_piece_108 (lv_at hl 7 rfl) ?_
              refine pw_gov0 w.all (va_runV (C := RM) (As := [.int a, .int b, .int d3, .int wl]) (rest := []) S (pm_c_begin l D m0 ad cI 0 mt 0 fd ct sc gl nu si wh pl sm ms mg mn mk md _ hct a b d3 wl) (pw_cw (n := 4) S eM_73 iM_begin sM_begin iniM kM_begin rfl rfl (by decide +kernel) ⟨by decide, by decide⟩) ⟨pw_blind, va_recv w.1 w.2.1 (ci := cM) (q0 := 0) rfl rfl, pw_pre w.all w.1⟩ rfl rfl hl.1 rfl (lv_room (Nat.le_of_ble_eq_true rfl)) dM_piece_110 ⟨Nat.zero_le _, Nat.zero_le _⟩) (fun  u H locs _ _ w => ?_)
              have w := w.one
              have w : pw_S D [(cI, .int)] A (pm_W m0 ad cI 0 mt 0 fd (pm_mkn ct + 1) (upd (pm_mk ct sc) (pm_mkn ct) a) (upd (pm_mk ct gl) (pm_mkn ct) b) (upd (pm_mk ct nu) (pm_mkn ct) d3) (upd (pm_mk ct si) (pm_mkn ct) (nI mt)) (upd (pm_mk ct wh) (pm_mkn ct) wl) (pm_fl (pm_mk2 ct pl) (1480 * pm_mkn ct) 1480) sm ms mg mn mk md) s _ _ := w
              refine lv_aload_n hx hb dM_piece_113 rfl (lv_at hl 2 rfl) ?_
              refine pw_get S w pm_FM 0 rfl 4 (by decide) eM_43 (v := .int (nI (pm_mkn ct + 1))) rfl dM_piece_114 ?_
              refine lv_iconst (v := 1) hx hb dM_piece_117 (by decide) ?_
              refine lv_isub hx hb dM_piece_118 ?_
              refine pw_top (y := nI (pm_mkn ct)) (nI_pred (pm_mkn ct)) ?_
              refine lv_istore (lv' := [(7, .int (nI (pm_mkn ct))), (6, .int (nI mf)), (0, .ref m0), (1, .int a), (2, .int b), (3, .int d3), (4, .int fm), (5, .int wl)]) hx hb dM_piece_119 hl (by decide) rfl (fun ls hl => ?_)
              exact tail (pm_mkn ct) (pm_mkn ct + 1) _ _ _ _ _ _ (Nat.lt_succ_self _) (Nat.succ_le_succ (pm_mkn_le hct)) (by rw [pk_us]; exact ewl) ⟨none, hfx, rfl⟩ _ _ w ls (lv_sub hl [0, 1, 2, 3, 4, 5, 6, 7] rfl)
            · obtain ⟨k, rfl⟩ : ∃ k, x = some k := by cases x with | none => exact absurd (by decide) h1 | some k => exact ⟨k, rfl⟩
              have hl : lv_has ls 10 [(7, .int (nI k)), (6, .int (nI mf)), (0, .ref m0), (1, .int a), (2, .int b), (3, .int d3), (4, .int fm), (5, .int wl)] := hl
              have hk4 : k < 4 := by have := hfx.1; omega
              refine lv_aload_n hx hb dM_piece_85 rfl (lv_at hl 2 rfl) ?_
              refine pw_get S w pm_FM 0 rfl 9 (by decide) eM_25 (v := .ref (ad 5)) rfl dM_piece_86 ?_
              refine lv_iload hx hb dM_piece_89 (lv_at hl 0 rfl) ?_
              refine pw_iald S w 6 0 (a := ad 5) (f := wh) (n := 5) (cA := cI) rfl rfl (j := k) (by omega) (by decide) dM_piece_91 ?_
              refine lv_iload hx hb dM_piece_92 (lv_at hl 7 rfl) ?_
              refine lv_icmp_eq (tgt := 99) hx hb dM_piece_94 (by decide) (fun h2 => ?_) (fun h2 => ?_)
              · refine lv_iload hx hb dM_piece_99 (lv_at hl 0 rfl) ?_
                refine lv_if_ge (tgt := 121) hx hb dM_piece_101 (by decide) (fun _ => ?_) (fun h9 => absurd (nI_pos' (show k < 2 ^ 31 by omega)) h9)
                exact tail k ct sc gl nu si wh pl hfx.1 hct (h2.trans ewl) ⟨some k, hfx, (if_pos h2).symm⟩ _ _ w ls hl
              · refine lv_iconst (v := (-1)) hx hb dM_piece_97 (by decide) ?_
                exact pw_reti S hr hlk (0, 0, ct, sc, gl, nu, si, wh, pl, sm, ms, mg, mn, mk, md) w (Or.inr (Or.inr ⟨fr, w0, some k, efm, ewl, by omega, by omega, hmf0, hfit, hfx, rfl, rfl, (if_neg h2).symm⟩)) (by decide) (by decide) dM_piece_98
          · refine lv_iconst (v := 2) hx hb dM_piece_43 (by decide) ?_
            refine lv_goto (tgt := 48) hx hb dM_piece_44 (by decide) ?_
            refine pw_put S w pm_FM 0 (fs := [.int cd, .int (nI mt), .int (nI mf), .ref (ad 0), .int (nI ct), .ref (ad 1), .ref (ad 2), .ref (ad 3), .ref (ad 4), .ref (ad 5), .ref (ad 6), .int sm, .int ms, .int mg, .int mn, .int mk, .ref (ad 7)]) rfl 0 (by decide) eM_34 rfl (v := .int 2) rfl rfl (Nat.le_of_ble_eq_true rfl) dM_piece_48 (fun H locs w => ?_)
            have w : pw_S D [(cI, .int)] A (pm_W m0 ad cI 2 mt mf fd ct sc gl nu si wh pl sm ms mg mn mk md) s _ _ := w
            refine lv_aload_n hx hb dM_piece_51 rfl (lv_at hl 0 rfl) ?_
            refine pw_get S w pm_FM 0 rfl 0 (by decide) eM_34 (v := .int 2) rfl dM_piece_52 ?_
            refine lv_if_le (tgt := 60) hx hb dM_piece_55 (by decide) (fun h9 => absurd h9 (by decide)) (fun _ => ?_)
            refine lv_iconst (v := 0) hx hb dM_piece_58 (by decide) ?_
            exact pw_reti S hr hlk (2, mf, ct, sc, gl, nu, si, wh, pl, sm, ms, mg, mn, mk, md) w (Or.inr (Or.inl ⟨rfl, ⟨hw1, hw2, hf0⟩, fun q => h2 (Int32.le_iff_toInt_le.mpr (by rw [h8]; omega))⟩)) (by decide) (by decide) dM_piece_59
      · refine lv_iconst (v := 1) hx hb dM_piece_20 (by decide) ?_
        refine lv_goto (tgt := 48) hx hb dM_piece_21 (by decide) ?_
        refine pw_put S w pm_FM 0 (fs := [.int cd, .int (nI mt), .int (nI mf), .ref (ad 0), .int (nI ct), .ref (ad 1), .ref (ad 2), .ref (ad 3), .ref (ad 4), .ref (ad 5), .ref (ad 6), .int sm, .int ms, .int mg, .int mn, .int mk, .ref (ad 7)]) rfl 0 (by decide) eM_34 rfl (v := .int 1) rfl rfl (Nat.le_of_ble_eq_true rfl) dM_piece_48 (fun H locs w => ?_)
        have w : pw_S D [(cI, .int)] A (pm_W m0 ad cI 1 mt mf fd ct sc gl nu si wh pl sm ms mg mn mk md) s _ _ := w
        refine lv_aload_n hx hb dM_piece_51 rfl (lv_at hl 0 rfl) ?_
        refine pw_get S w pm_FM 0 rfl 0 (by decide) eM_34 (v := .int 1) rfl dM_piece_52 ?_
        refine lv_if_le (tgt := 60) hx hb dM_piece_55 (by decide) (fun h9 => absurd h9 (by decide)) (fun _ => ?_)
        refine lv_iconst (v := 0) hx hb dM_piece_58 (by decide) ?_
        exact pw_reti S hr hlk (1, mf, ct, sc, gl, nu, si, wh, pl, sm, ms, mg, mn, mk, md) w (Or.inl ⟨rfl, fun q => absurd q.2.2 (by have h9 := pw_nle h3; have : (0 : Int32).toInt = 0 := rfl; omega)⟩) (by decide) (by decide) dM_piece_59
