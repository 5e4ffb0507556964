set_option maxHeartbeats 4000000 in
set_option maxRecDepth 100000 in
/-- the reference: begin -/
theorem pm_c_begin (l : Launch) (D : va_G) (m0 : Nat) (ad : Nat → Nat) (cI : ClassId) (cd : Int32) (mt : Nat) (mf : Nat) (fd : Nat → Int32) (ct : Nat) (sc : Nat → Int32) (gl : Nat → Int32) (nu : Nat → Int32) (si : Nat → Int32) (wh : Nat → Int32) (pl : Nat → Int32) (sm : Int32) (ms : Int32) (mg : Int32) (mn : Int32) (mk : Int32) (md : Nat → Int32) (sz : Nat) (hct : ct ≤ 4) (a b d3 wl : Int32) : pw_Mv l yM_begin cM_begin 6 ({ frames := 1, cells := 0, slots := 0, locals := 60 }) D [(cI, .int)] [.ref m0, .int a, .int b, .int d3, .int wl] (pm_W m0 ad cI cd mt mf fd ct sc gl nu si wh pl sm ms mg mn mk md) sz (σ := Unit) (fun _ => True) (fun _ => pm_W m0 ad cI cd mt mf fd (pm_mkn ct + 1) (upd (pm_mk ct sc) (pm_mkn ct) a) (upd (pm_mk ct gl) (pm_mkn ct) b) (upd (pm_mk ct nu) (pm_mkn ct) d3) (upd (pm_mk ct si) (pm_mkn ct) (nI mt)) (upd (pm_mk ct wh) (pm_mkn ct) wl) (pm_fl (pm_mk2 ct pl) (1480 * pm_mkn ct) 1480) sm ms mg mn mk md) (fun _ => [(cI, .int)]) 0 0 := by
  refine pw_openV (by decide) (Nat.le_of_ble_eq_true rfl) ?_
  intro p e s m below meth c ls S hr hlk hnm hl hsz w
  obtain ⟨hx, hb, hml, hown, hts⟩ := id S
  have hl : lv_has ls 6 [(0, .ref m0), (1, .int a), (2, .int b), (3, .int d3), (4, .int wl)] := hl
  generalize va_A (pm_W m0 ad cI cd mt mf fd ct sc gl nu si wh pl sm ms mg mn mk md) sz = A at w ⊢
  have tail : ∀ (n1 : Nat) (sc1 gl1 nu1 si1 wh1 pl1 : Nat → Int32), n1 = pm_mkn ct → sc1 = pm_mk ct sc → gl1 = pm_mk ct gl → nu1 = pm_mk ct nu → si1 = pm_mk ct si → wh1 = pm_mk ct wh → pl1 = pm_mk2 ct pl → n1 ≤ 3 → ∀ (H : Heap) (locs : List Loc), pw_S D [(cI, .int)] A (pm_W m0 ad cI cd mt mf fd n1 sc1 gl1 nu1 si1 wh1 pl1 sm ms mg mn mk md) s H locs → ∀ (ls : Array Slot), lv_has ls 6 [(0, .ref m0), (1, .int a), (2, .int b), (3, .int d3), (4, .int wl)] → W p l e ({ frames := 1, cells := 0, slots := 0, locals := 60 }) s m #[Value.ref m0, Value.int a, Value.int b, Value.int d3, Value.int wl] below meth c H locs 0 0 (MQ below (va_Qv (S := Unit) (fun _ => True) (pw_B D (fun _ => pm_W m0 ad cI cd mt mf fd (pm_mkn ct + 1) (upd (pm_mk ct sc) (pm_mkn ct) a) (upd (pm_mk ct gl) (pm_mkn ct) b) (upd (pm_mk ct nu) (pm_mkn ct) d3) (upd (pm_mk ct si) (pm_mkn ct) (nI mt)) (upd (pm_mk ct wh) (pm_mkn ct) wl) (pm_fl (pm_mk2 ct pl) (1480 * pm_mkn ct) 1480) sm ms mg mn mk md) (fun _ => [(cI, .int)]) A) A) #[Value.ref m0, Value.int a, Value.int b, Value.int d3, Value.int wl] s 0 0 A) (F0 m 13 ls []) := by
    intro n1 sc1 gl1 nu1 si1 wh1 pl1 e1 e2 e3 e4 e5 e6 e7 hn1 H locs w ls hl
    refine lv_aload_n hx hb dM_begin_13 rfl (lv_at hl 0 rfl) ?_
    refine pw_get S w pm_FM 0 rfl 5 (by decide) eM_13 (v := .ref (ad 1)) rfl dM_begin_14 ?_
    refine lv_aload_n hx hb dM_begin_17 rfl (lv_at hl 0 rfl) ?_
    refine pw_get S w pm_FM 0 rfl 4 (by decide) eM_43 (v := .int (nI n1)) rfl dM_begin_18 ?_
    refine lv_iload_n hx hb dM_begin_21 rfl (lv_at hl 1 rfl) ?_
    refine pw_iast S w 2 0 (a := ad 1) (f := sc1) (n := 5) (cA := cI) rfl rfl (j := n1) (by omega) (by decide) dM_begin_22 (fun H locs w => ?_)
    have w : pw_S D [(cI, .int)] A (pm_W m0 ad cI cd mt mf fd n1 (upd sc1 n1 a) gl1 nu1 si1 wh1 pl1 sm ms mg mn mk md) s _ _ := w
    refine lv_aload_n hx hb dM_begin_23 rfl (lv_at hl 0 rfl) ?_
    refine pw_get S w pm_FM 0 rfl 6 (by decide) eM_16 (v := .ref (ad 2)) rfl dM_begin_24 ?_
    refine lv_aload_n hx hb dM_begin_27 rfl (lv_at hl 0 rfl) ?_
    refine pw_get S w pm_FM 0 rfl 4 (by decide) eM_43 (v := .int (nI n1)) rfl dM_begin_28 ?_
    refine lv_iload_n hx hb dM_begin_31 rfl (lv_at hl 2 rfl) ?_
    refine pw_iast S w 3 0 (a := ad 2) (f := gl1) (n := 5) (cA := cI) rfl rfl (j := n1) (by omega) (by decide) dM_begin_32 (fun H locs w => ?_)
    have w : pw_S D [(cI, .int)] A (pm_W m0 ad cI cd mt mf fd n1 (upd sc1 n1 a) (upd gl1 n1 b) nu1 si1 wh1 pl1 sm ms mg mn mk md) s _ _ := w
    refine lv_aload_n hx hb dM_begin_33 rfl (lv_at hl 0 rfl) ?_
    refine pw_get S w pm_FM 0 rfl 7 (by decide) eM_19 (v := .ref (ad 3)) rfl dM_begin_34 ?_
    refine lv_aload_n hx hb dM_begin_37 rfl (lv_at hl 0 rfl) ?_
    refine pw_get S w pm_FM 0 rfl 4 (by decide) eM_43 (v := .int (nI n1)) rfl dM_begin_38 ?_
    refine lv_iload_n hx hb dM_begin_41 rfl (lv_at hl 3 rfl) ?_
    refine pw_iast S w 4 0 (a := ad 3) (f := nu1) (n := 5) (cA := cI) rfl rfl (j := n1) (by omega) (by decide) dM_begin_42 (fun H locs w => ?_)
    have w : pw_S D [(cI, .int)] A (pm_W m0 ad cI cd mt mf fd n1 (upd sc1 n1 a) (upd gl1 n1 b) (upd nu1 n1 d3) si1 wh1 pl1 sm ms mg mn mk md) s _ _ := w
    refine lv_aload_n hx hb dM_begin_43 rfl (lv_at hl 0 rfl) ?_
    refine pw_get S w pm_FM 0 rfl 8 (by decide) eM_22 (v := .ref (ad 4)) rfl dM_begin_44 ?_
    refine lv_aload_n hx hb dM_begin_47 rfl (lv_at hl 0 rfl) ?_
    refine pw_get S w pm_FM 0 rfl 4 (by decide) eM_43 (v := .int (nI n1)) rfl dM_begin_48 ?_
    refine lv_aload_n hx hb dM_begin_51 rfl (lv_at hl 0 rfl) ?_
    refine pw_get S w pm_FM 0 rfl 1 (by decide) eM_50 (v := .int (nI mt)) rfl dM_begin_52 ?_
    refine pw_iast S w 5 0 (a := ad 4) (f := si1) (n := 5) (cA := cI) rfl rfl (j := n1) (by omega) (by decide) dM_begin_55 (fun H locs w => ?_)
    have w : pw_S D [(cI, .int)] A (pm_W m0 ad cI cd mt mf fd n1 (upd sc1 n1 a) (upd gl1 n1 b) (upd nu1 n1 d3) (upd si1 n1 (nI mt)) wh1 pl1 sm ms mg mn mk md) s _ _ := w
    refine lv_aload_n hx hb dM_begin_56 rfl (lv_at hl 0 rfl) ?_
    refine pw_get S w pm_FM 0 rfl 9 (by decide) eM_25 (v := .ref (ad 5)) rfl dM_begin_57 ?_
    refine lv_aload_n hx hb dM_begin_60 rfl (lv_at hl 0 rfl) ?_
    refine pw_get S w pm_FM 0 rfl 4 (by decide) eM_43 (v := .int (nI n1)) rfl dM_begin_61 ?_
    refine lv_iload hx hb dM_begin_64 (lv_at hl 4 rfl) ?_
    refine pw_iast S w 6 0 (a := ad 5) (f := wh1) (n := 5) (cA := cI) rfl rfl (j := n1) (by omega) (by decide) dM_begin_66 (fun H locs w => ?_)
    have w : pw_S D [(cI, .int)] A (pm_W m0 ad cI cd mt mf fd n1 (upd sc1 n1 a) (upd gl1 n1 b) (upd nu1 n1 d3) (upd si1 n1 (nI mt)) (upd wh1 n1 wl) pl1 sm ms mg mn mk md) s _ _ := w
    refine lv_iconst (v := 0) hx hb dM_begin_67 (by decide) ?_
    refine lv_istore (lv' := [(5, .int 0), (0, .ref m0), (1, .int a), (2, .int b), (3, .int d3), (4, .int wl)]) hx hb dM_begin_68 hl (by decide) rfl (fun ls hl => ?_)
    have loop : ∀ (n : Nat) (i : Nat), i ≤ 1480 → 1480 < i + n → ∀ (H : Heap) (locs : List Loc), pw_S D [(cI, .int)] A (pm_W m0 ad cI cd mt mf fd n1 (upd sc1 n1 a) (upd gl1 n1 b) (upd nu1 n1 d3) (upd si1 n1 (nI mt)) (upd wh1 n1 wl) (pm_fl pl1 (1480 * n1) i) sm ms mg mn mk md) s H locs → ∀ (ls : Array Slot), lv_has ls 6 [(5, .int (nI i)), (0, .ref m0), (1, .int a), (2, .int b), (3, .int d3), (4, .int wl)] → W p l e ({ frames := 1, cells := 0, slots := 0, locals := 60 }) s m #[Value.ref m0, Value.int a, Value.int b, Value.int d3, Value.int wl] below meth c H locs 0 0 (MQ below (va_Qv (S := Unit) (fun _ => True) (pw_B D (fun _ => pm_W m0 ad cI cd mt mf fd (pm_mkn ct + 1) (upd (pm_mk ct sc) (pm_mkn ct) a) (upd (pm_mk ct gl) (pm_mkn ct) b) (upd (pm_mk ct nu) (pm_mkn ct) d3) (upd (pm_mk ct si) (pm_mkn ct) (nI mt)) (upd (pm_mk ct wh) (pm_mkn ct) wl) (pm_fl (pm_mk2 ct pl) (1480 * pm_mkn ct) 1480) sm ms mg mn mk md) (fun _ => [(cI, .int)]) A) A) #[Value.ref m0, Value.int a, Value.int b, Value.int d3, Value.int wl] s 0 0 A) (F0 m 70 ls []) := by
      intro n
      induction n with
      | zero => intros; omega
      | succ n ih =>
        intro i hi hn H locs w ls hl
        refine lv_iload hx hb dM_begin_70 (lv_at hl 0 rfl) ?_
        refine lv_sipush (v := 1480) hx hb dM_begin_72 (by decide) ?_
        refine lv_icmp_ge (tgt := 101) hx hb dM_begin_75 (by decide) (fun h1 => ?_) (fun h1 => ?_)
        · have e9 : i = 1480 := by have := (nI_leI (a := 1480) (b := i) (by decide) (by omega)).mp h1; omega
          subst e9
          refine lv_aload_n hx hb dM_begin_101 rfl (lv_at hl 1 rfl) ?_
          refine lv_dup hx hb dM_begin_102 rfl ?_
          refine pw_get S w pm_FM 0 rfl 4 (by decide) eM_43 (v := .int (nI n1)) rfl dM_begin_103 ?_
          refine lv_iconst (v := 1) hx hb dM_begin_106 (by decide) ?_
          refine lv_iadd hx hb dM_begin_107 ?_
          refine pw_top (y := nI (n1 + 1)) (nI_1 n1) ?_
          refine pw_put S w pm_FM 0 (fs := [.int cd, .int (nI mt), .int (nI mf), .ref (ad 0), .int (nI n1), .ref (ad 1), .ref (ad 2), .ref (ad 3), .ref (ad 4), .ref (ad 5), .ref (ad 6), .int sm, .int ms, .int mg, .int mn, .int mk, .ref (ad 7)]) rfl 4 (by decide) eM_43 rfl (v := .int (nI (n1 + 1))) rfl rfl (Nat.le_of_ble_eq_true rfl) dM_begin_108 (fun H locs w => ?_)
          have w : pw_S D [(cI, .int)] A (pm_W m0 ad cI cd mt mf fd (n1 + 1) (upd sc1 n1 a) (upd gl1 n1 b) (upd nu1 n1 d3) (upd si1 n1 (nI mt)) (upd wh1 n1 wl) (pm_fl pl1 (1480 * n1) 1480) sm ms mg mn mk md) s _ _ := w
          subst e1 e2 e3 e4 e5 e6 e7
          exact pw_retv S hr hlk () w trivial (by decide) (by decide) dM_begin_111
        · have hlt : i < 1480 := Nat.lt_of_not_le (fun q => h1 ((nI_leI (a := 1480) (b := i) (by decide) (by omega)).mpr q))
          refine lv_aload_n hx hb dM_begin_78 rfl (lv_at hl 1 rfl) ?_
          refine pw_get S w pm_FM 0 rfl 10 (by decide) eM_28 (v := .ref (ad 6)) rfl dM_begin_79 ?_
          refine lv_sipush (v := 1480) hx hb dM_begin_82 (by decide) ?_
          refine lv_aload_n hx hb dM_begin_85 rfl (lv_at hl 1 rfl) ?_
          refine pw_get S w pm_FM 0 rfl 4 (by decide) eM_43 (v := .int (nI n1)) rfl dM_begin_86 ?_
          refine lv_imul hx hb dM_begin_89 ?_
          refine lv_iload hx hb dM_begin_90 (lv_at hl 0 rfl) ?_
          refine lv_iadd hx hb dM_begin_92 ?_
          refine pw_top (y := nI (1480 * n1 + i)) (pm_ix n1 i) ?_
          refine lv_iconst (v := (-1)) hx hb dM_begin_93 (by decide) ?_
          refine pw_iast S w 7 0 (a := ad 6) (f := pm_fl pl1 (1480 * n1) i) (n := 7400) (cA := cI) rfl rfl (j := 1480 * n1 + i) (by omega) (by decide) dM_begin_94 (fun H locs w => ?_)
          have w : pw_S D [(cI, .int)] A (pm_W m0 ad cI cd mt mf fd n1 (upd sc1 n1 a) (upd gl1 n1 b) (upd nu1 n1 d3) (upd si1 n1 (nI mt)) (upd wh1 n1 wl) (upd (pm_fl pl1 (1480 * n1) i) (1480 * n1 + i) (-1)) sm ms mg mn mk md) s _ _ := w
          have w : pw_S D [(cI, .int)] A (pm_W m0 ad cI cd mt mf fd n1 (upd sc1 n1 a) (upd gl1 n1 b) (upd nu1 n1 d3) (upd si1 n1 (nI mt)) (upd wh1 n1 wl) (pm_fl pl1 (1480 * n1) (i + 1)) sm ms mg mn mk md) s _ _ := w.to (by rw [pm_fl_s])
          refine lv_iinc (v := nI (i + 1)) (lv' := [(5, .int (nI (i + 1))), (0, .ref m0), (1, .int a), (2, .int b), (3, .int d3), (4, .int wl)]) hx hb dM_begin_95 hl (k := 0) rfl (nI_1 i) (by decide) rfl (fun ls hl => ?_)
          refine lv_goto (tgt := 70) hx hb dM_begin_98 (by decide) ?_
          exact ih (i + 1) (by omega) (by omega) H locs w ls hl
    exact loop 1481 0 (by omega) (by omega) _ _ (w.to (by rw [pm_fl_0])) ls hl
  refine lv_aload_n hx hb dM_begin_0 rfl (lv_at hl 0 rfl) ?_
  refine pw_get S w pm_FM 0 rfl 4 (by decide) eM_43 (v := .int (nI ct)) rfl dM_begin_1 ?_
  refine lv_iconst (v := 4) hx hb dM_begin_4 (by decide) ?_
  refine lv_icmp_ne (tgt := 13) hx hb dM_begin_5 (by decide) (fun h1 => ?_) (fun h1 => ?_)
  · have hn4 : ct ≠ 4 := fun q => h1 (by rw [q]; rfl)
    exact tail ct sc gl nu si wh pl (if_neg hn4).symm (if_neg hn4).symm (if_neg hn4).symm (if_neg hn4).symm (if_neg hn4).symm (if_neg hn4).symm (if_neg hn4).symm (by omega) _ _ w ls hl
  · have hn4 : ct = 4 := (nI_eq (a := ct) (b := 4) (by omega) (by decide)).mp h1
    refine lv_aload_n hx hb dM_begin_8 rfl (lv_at hl 0 rfl) ?_
    refine lv_iconst (v := 0) hx hb dM_begin_9 (by decide) ?_
    refine pw_top (y := nI 0) rfl ?_
    refine pw_gov0 w.all (va_runV (C := RM) (As := [.int (nI 0)]) (rest := []) S (pm_c_forget l D m0 ad cI cd mt mf fd ct sc gl nu si wh pl sm ms mg mn mk md _ 0 (by omega) hct) (pw_cw (n := 1) S eM_46 iM_forget sM_forget iniM kM_forget rfl rfl (by decide +kernel) ⟨by decide, by decide⟩) ⟨pw_blind, va_recv w.1 w.2.1 (ci := cM) (q0 := 0) rfl rfl, pw_pre w.all w.1⟩ rfl rfl hl.1 rfl (lv_room (Nat.le_of_ble_eq_true rfl)) dM_begin_10 ⟨Nat.zero_le _, Nat.zero_le _⟩) (fun  u H locs _ _ w => ?_)
    have w := w.one
    subst hn4
    exact tail 3 _ _ _ _ _ _ rfl rfl rfl rfl rfl rfl rfl (by omega) _ _ w ls hl

set_option maxHeartbeats 4000000 in
set_option maxRecDepth 100000 in
/-- the reference: finish -/
theorem pm_c_finish (l : Launch) (D : va_G) (m0 : Nat) (ad : Nat → Nat) (cI : ClassId) (cd : Int32) (mt : Nat) (mf : Nat) (fd : Nat → Int32) (ct : Nat) (sc : Nat → Int32) (gl : Nat → Int32) (nu : Nat → Int32) (si : Nat → Int32) (wh : Nat → Int32) (pl : Nat → Int32) (sm : Int32) (ms : Int32) (mg : Int32) (mn : Int32) (mk : Int32) (md : Nat → Int32) (sz : Nat) (k : Nat) (hk : k < ct) (hct : ct ≤ 4) (wn : Nat) (hw : wh k = nI wn) (hwn : wn ≤ 1480) : pw_Mv l yM_finish cM_finish 3 ({ frames := 1, cells := 0, slots := 0, locals := 60 }) D [(cI, .int)] [.ref m0, .int (nI k)] (pm_W m0 ad cI cd mt mf fd ct sc gl nu si wh pl sm ms mg mn mk md) sz (σ := Unit) (fun _ => True) (fun _ => pm_W m0 ad cI cd mt mf fd (ct - 1) (pm_s1 sc k (ct - 1)) (pm_s1 gl k (ct - 1)) (pm_s1 nu k (ct - 1)) (pm_s1 si k (ct - 1)) (pm_s1 wh k (ct - 1)) (pm_s2 pl (1480 * k) (1480 * (ct - 1))) 1 (sc k) (gl k) (nu k) (wh k) (pm_cp md pl (1480 * k) wn)) (fun _ => [(cI, .int)]) 0 0 := by
  refine pw_openV (by decide) (Nat.le_of_ble_eq_true rfl) ?_
  intro p e s m below meth c ls S hr hlk hnm hl hsz w
  obtain ⟨hx, hb, hml, hown, hts⟩ := id S
  have hl : lv_has ls 3 [(0, .ref m0), (1, .int (nI k))] := hl
  generalize va_A (pm_W m0 ad cI cd mt mf fd ct sc gl nu si wh pl sm ms mg mn mk md) sz = A at w ⊢
  refine lv_aload_n hx hb dM_finish_0 rfl (lv_at hl 0 rfl) ?_
  refine lv_iconst (v := 1) hx hb dM_finish_1 (by decide) ?_
  refine pw_put S w pm_FM 0 (fs := [.int cd, .int (nI mt), .int (nI mf), .ref (ad 0), .int (nI ct), .ref (ad 1), .ref (ad 2), .ref (ad 3), .ref (ad 4), .ref (ad 5), .ref (ad 6), .int sm, .int ms, .int mg, .int mn, .int mk, .ref (ad 7)]) rfl 11 (by decide) eM_53 rfl (v := .int 1) rfl rfl (Nat.le_of_ble_eq_true rfl) dM_finish_2 (fun H locs w => ?_)
  have w : pw_S D [(cI, .int)] A (pm_W m0 ad cI cd mt mf fd ct sc gl nu si wh pl 1 ms mg mn mk md) s _ _ := w
  refine lv_aload_n hx hb dM_finish_5 rfl (lv_at hl 0 rfl) ?_
  refine lv_aload_n hx hb dM_finish_6 rfl (lv_at hl 0 rfl) ?_
  refine pw_get S w pm_FM 0 rfl 5 (by decide) eM_13 (v := .ref (ad 1)) rfl dM_finish_7 ?_
  refine lv_iload_n hx hb dM_finish_10 rfl (lv_at hl 1 rfl) ?_
  refine pw_iald S w 2 0 (a := ad 1) (f := sc) (n := 5) (cA := cI) rfl rfl (j := k) (by omega) (by decide) dM_finish_11 ?_
  refine pw_put S w pm_FM 0 (fs := [.int cd, .int (nI mt), .int (nI mf), .ref (ad 0), .int (nI ct), .ref (ad 1), .ref (ad 2), .ref (ad 3), .ref (ad 4), .ref (ad 5), .ref (ad 6), .int 1, .int ms, .int mg, .int mn, .int mk, .ref (ad 7)]) rfl 12 (by decide) eM_57 rfl (v := .int (sc k)) rfl rfl (Nat.le_of_ble_eq_true rfl) dM_finish_12 (fun H locs w => ?_)
  have w : pw_S D [(cI, .int)] A (pm_W m0 ad cI cd mt mf fd ct sc gl nu si wh pl 1 (sc k) mg mn mk md) s _ _ := w
  refine lv_aload_n hx hb dM_finish_15 rfl (lv_at hl 0 rfl) ?_
  refine lv_aload_n hx hb dM_finish_16 rfl (lv_at hl 0 rfl) ?_
  refine pw_get S w pm_FM 0 rfl 6 (by decide) eM_16 (v := .ref (ad 2)) rfl dM_finish_17 ?_
  refine lv_iload_n hx hb dM_finish_20 rfl (lv_at hl 1 rfl) ?_
  refine pw_iald S w 3 0 (a := ad 2) (f := gl) (n := 5) (cA := cI) rfl rfl (j := k) (by omega) (by decide) dM_finish_21 ?_
  refine pw_put S w pm_FM 0 (fs := [.int cd, .int (nI mt), .int (nI mf), .ref (ad 0), .int (nI ct), .ref (ad 1), .ref (ad 2), .ref (ad 3), .ref (ad 4), .ref (ad 5), .ref (ad 6), .int 1, .int (sc k), .int mg, .int mn, .int mk, .ref (ad 7)]) rfl 13 (by decide) eM_60 rfl (v := .int (gl k)) rfl rfl (Nat.le_of_ble_eq_true rfl) dM_finish_22 (fun H locs w => ?_)
  have w : pw_S D [(cI, .int)] A (pm_W m0 ad cI cd mt mf fd ct sc gl nu si wh pl 1 (sc k) (gl k) mn mk md) s _ _ := w
  refine lv_aload_n hx hb dM_finish_25 rfl (lv_at hl 0 rfl) ?_
  refine lv_aload_n hx hb dM_finish_26 rfl (lv_at hl 0 rfl) ?_
  refine pw_get S w pm_FM 0 rfl 7 (by decide) eM_19 (v := .ref (ad 3)) rfl dM_finish_27 ?_
  refine lv_iload_n hx hb dM_finish_30 rfl (lv_at hl 1 rfl) ?_
  refine pw_iald S w 4 0 (a := ad 3) (f := nu) (n := 5) (cA := cI) rfl rfl (j := k) (by omega) (by decide) dM_finish_31 ?_
  refine pw_put S w pm_FM 0 (fs := [.int cd, .int (nI mt), .int (nI mf), .ref (ad 0), .int (nI ct), .ref (ad 1), .ref (ad 2), .ref (ad 3), .ref (ad 4), .ref (ad 5), .ref (ad 6), .int 1, .int (sc k), .int (gl k), .int mn, .int mk, .ref (ad 7)]) rfl 14 (by decide) eM_63 rfl (v := .int (nu k)) rfl rfl (Nat.le_of_ble_eq_true rfl) dM_finish_32 (fun H locs w => ?_)
  have w : pw_S D [(cI, .int)] A (pm_W m0 ad cI cd mt mf fd ct sc gl nu si wh pl 1 (sc k) (gl k) (nu k) mk md) s _ _ := w
  refine lv_aload_n hx hb dM_finish_35 rfl (lv_at hl 0 rfl) ?_
  refine lv_aload_n hx hb dM_finish_36 rfl (lv_at hl 0 rfl) ?_
  refine pw_get S w pm_FM 0 rfl 9 (by decide) eM_25 (v := .ref (ad 5)) rfl dM_finish_37 ?_
  refine lv_iload_n hx hb dM_finish_40 rfl (lv_at hl 1 rfl) ?_
  refine pw_iald S w 6 0 (a := ad 5) (f := wh) (n := 5) (cA := cI) rfl rfl (j := k) (by omega) (by decide) dM_finish_41 ?_
  refine pw_put S w pm_FM 0 (fs := [.int cd, .int (nI mt), .int (nI mf), .ref (ad 0), .int (nI ct), .ref (ad 1), .ref (ad 2), .ref (ad 3), .ref (ad 4), .ref (ad 5), .ref (ad 6), .int 1, .int (sc k), .int (gl k), .int (nu k), .int mk, .ref (ad 7)]) rfl 15 (by decide) eM_66 rfl (v := .int (wh k)) rfl rfl (Nat.le_of_ble_eq_true rfl) dM_finish_42 (fun H locs w => ?_)
  have w : pw_S D [(cI, .int)] A (pm_W m0 ad cI cd mt mf fd ct sc gl nu si wh pl 1 (sc k) (gl k) (nu k) (wh k) md) s _ _ := w
  refine lv_iconst (v := 0) hx hb dM_finish_45 (by decide) ?_
  refine lv_istore_n (lv' := [(2, .int 0), (0, .ref m0), (1, .int (nI k))]) hx hb dM_finish_46 rfl hl (by decide) rfl (fun ls hl => ?_)
  have loop : ∀ (n : Nat) (i : Nat), i ≤ wn → wn < i + n → ∀ (H : Heap) (locs : List Loc), pw_S D [(cI, .int)] A (pm_W m0 ad cI cd mt mf fd ct sc gl nu si wh pl 1 (sc k) (gl k) (nu k) (wh k) (pm_cp md pl (1480 * k) i)) s H locs → ∀ (ls : Array Slot), lv_has ls 3 [(2, .int (nI i)), (0, .ref m0), (1, .int (nI k))] → W p l e ({ frames := 1, cells := 0, slots := 0, locals := 60 }) s m #[Value.ref m0, Value.int (nI k)] below meth c H locs 0 0 (MQ below (va_Qv (S := Unit) (fun _ => True) (pw_B D (fun _ => pm_W m0 ad cI cd mt mf fd (ct - 1) (pm_s1 sc k (ct - 1)) (pm_s1 gl k (ct - 1)) (pm_s1 nu k (ct - 1)) (pm_s1 si k (ct - 1)) (pm_s1 wh k (ct - 1)) (pm_s2 pl (1480 * k) (1480 * (ct - 1))) 1 (sc k) (gl k) (nu k) (wh k) (pm_cp md pl (1480 * k) wn)) (fun _ => [(cI, .int)]) A) A) #[Value.ref m0, Value.int (nI k)] s 0 0 A) (F0 m 47 ls []) := by
    intro n
    induction n with
    | zero => intros; omega
    | succ n ih =>
      intro i hi hn H locs w ls hl
      refine lv_iload_n hx hb dM_finish_47 rfl (lv_at hl 0 rfl) ?_
      refine lv_aload_n hx hb dM_finish_48 rfl (lv_at hl 1 rfl) ?_
      refine pw_get S w pm_FM 0 rfl 15 (by decide) eM_66 (v := .int (wh k)) rfl dM_finish_49 ?_
      refine pw_top (y := nI wn) hw ?_
      refine lv_icmp_ge (tgt := 79) hx hb dM_finish_52 (by decide) (fun h1 => ?_) (fun h1 => ?_)
      · have e9 : i = wn := by have := (nI_leI (a := wn) (b := i) (by omega) (by omega)).mp h1; omega
        subst e9
        refine lv_aload_n hx hb dM_finish_79 rfl (lv_at hl 1 rfl) ?_
        refine lv_iload_n hx hb dM_finish_80 rfl (lv_at hl 2 rfl) ?_
        refine pw_gov0 w.all (va_runV (C := RM) (As := [.int (nI k)]) (rest := []) S (pm_c_forget l D m0 ad cI cd mt mf fd ct sc gl nu si wh pl 1 (sc k) (gl k) (nu k) (wh k) (pm_cp md pl (1480 * k) i) _ k hk hct) (pw_cw (n := 1) S eM_46 iM_forget sM_forget iniM kM_forget rfl rfl (by decide +kernel) ⟨by decide, by decide⟩) ⟨pw_blind, va_recv w.1 w.2.1 (ci := cM) (q0 := 0) rfl rfl, pw_pre w.all w.1⟩ rfl rfl hl.1 rfl (lv_room (Nat.le_of_ble_eq_true rfl)) dM_finish_81 ⟨Nat.zero_le _, Nat.zero_le _⟩) (fun  u H locs _ _ w => ?_)
        have w := w.one
        exact pw_retv S hr hlk () w trivial (by decide) (by decide) dM_finish_84
      · have hlt : i < wn := Nat.lt_of_not_le (fun q => h1 ((nI_leI (a := wn) (b := i) (by omega) (by omega)).mpr q))
        refine lv_aload_n hx hb dM_finish_55 rfl (lv_at hl 1 rfl) ?_
        refine pw_get S w pm_FM 0 rfl 16 (by decide) eM_31 (v := .ref (ad 7)) rfl dM_finish_56 ?_
        refine lv_iload_n hx hb dM_finish_59 rfl (lv_at hl 0 rfl) ?_
        refine lv_aload_n hx hb dM_finish_60 rfl (lv_at hl 1 rfl) ?_
        refine pw_get S w pm_FM 0 rfl 10 (by decide) eM_28 (v := .ref (ad 6)) rfl dM_finish_61 ?_
        refine lv_sipush (v := 1480) hx hb dM_finish_64 (by decide) ?_
        refine lv_iload_n hx hb dM_finish_67 rfl (lv_at hl 2 rfl) ?_
        refine lv_imul hx hb dM_finish_68 ?_
        refine lv_iload_n hx hb dM_finish_69 rfl (lv_at hl 0 rfl) ?_
        refine lv_iadd hx hb dM_finish_70 ?_
        refine pw_top (y := nI (1480 * k + i)) (pm_ix k i) ?_
        refine pw_iald S w 7 0 (a := ad 6) (f := pl) (n := 7400) (cA := cI) rfl rfl (j := 1480 * k + i) (by omega) (by decide) dM_finish_71 ?_
        refine pw_iast S w 8 0 (a := ad 7) (f := pm_cp md pl (1480 * k) i) (n := 1480) (cA := cI) rfl rfl (j := i) (by omega) (by decide) dM_finish_72 (fun H locs w => ?_)
        have w : pw_S D [(cI, .int)] A (pm_W m0 ad cI cd mt mf fd ct sc gl nu si wh pl 1 (sc k) (gl k) (nu k) (wh k) (upd (pm_cp md pl (1480 * k) i) i (pl (1480 * k + i)))) s _ _ := w
        have w : pw_S D [(cI, .int)] A (pm_W m0 ad cI cd mt mf fd ct sc gl nu si wh pl 1 (sc k) (gl k) (nu k) (wh k) (pm_cp md pl (1480 * k) (i + 1))) s _ _ := w.to (by rw [pm_cp_s])
        refine lv_iinc (v := nI (i + 1)) (lv' := [(2, .int (nI (i + 1))), (0, .ref m0), (1, .int (nI k))]) hx hb dM_finish_73 hl (k := 0) rfl (nI_1 i) (by decide) rfl (fun ls hl => ?_)
        refine lv_goto (tgt := 47) hx hb dM_finish_76 (by decide) ?_
        exact ih (i + 1) (by omega) (by omega) H locs w ls hl
  exact loop (wn + 1) 0 (by omega) (by omega) _ _ (w.to (by rw [pm_cp_0])) ls hl

set_option maxHeartbeats 4000000 in
set_option maxRecDepth 100000 in
/-- the reference: feed -/
theorem pm_c_feed (l : Launch) (D : va_G) (m0 : Nat) (ad : Nat → Nat) (cI : ClassId) (cd : Int32) (mt : Nat) (mf : Nat) (fd : Nat → Int32) (ct : Nat) (sc : Nat → Int32) (gl : Nat → Int32) (nu : Nat → Int32) (si : Nat → Int32) (wh : Nat → Int32) (pl : Nat → Int32) (sm : Int32) (ms : Int32) (mg : Int32) (mn : Int32) (mk : Int32) (md : Nat → Int32) (sz : Nat) (hmf : mf ≤ 1480) (x : Int64) (n : Int32) : pw_Mi l yM_feed cM_feed 5 .int ({ frames := 0, cells := 0, slots := 0, locals := 0 }) D [(cI, .int)] [.ref m0, .long x, .int n] (pm_W m0 ad cI cd mt mf fd ct sc gl nu si wh pl sm ms mg mn mk md) sz (σ := Int32 × Nat × (Nat → Int32)) (fun r u => (u = (1, mf, fd) ∧ ¬ (1 ≤ n.toInt ∧ n.toInt ≤ 8)) ∨ (u = (2, mf, fd) ∧ (1 ≤ n.toInt ∧ n.toInt ≤ 8) ∧ 1480 < (mf : Int) + n.toInt) ∨ ∃ n9, 1 ≤ n9 ∧ n9 ≤ 8 ∧ n = nI n9 ∧ mf + n9 ≤ 1480 ∧ u = (0, mf + n9, pm_fd fd mf x n9 n9) ∧ r = nI (mf + n9)) (fun u => pm_W m0 ad cI u.1 mt u.2.1 u.2.2 ct sc gl nu si wh pl sm ms mg mn mk md) 0 0 := by
  refine pw_openI (by decide) (Nat.le_of_ble_eq_true rfl) ?_
  intro p e s m below meth c ls S hr hlk hl hsz w
  obtain ⟨hx, hb, hml, hown, hts⟩ := id S
  have hl : lv_has ls 5 [(0, .ref m0), (1, .long x), (3, .int n)] := hl
  generalize va_A (pm_W m0 ad cI cd mt mf fd ct sc gl nu si wh pl sm ms mg mn mk md) sz = A at w ⊢
  refine lv_aload_n hx hb dM_feed_0 rfl (lv_at hl 0 rfl) ?_
  refine lv_iload_n hx hb dM_feed_1 rfl (lv_at hl 2 rfl) ?_
  refine lv_iconst (v := 1) hx hb dM_feed_2 (by decide) ?_
  refine lv_icmp_lt (tgt := 12) hx hb dM_feed_3 (by decide) (fun h1 => ?_) (fun h1 => ?_)
  · refine lv_iconst (v := 1) hx hb dM_feed_12 (by decide) ?_
    refine lv_goto (tgt := 33) hx hb dM_feed_13 (by decide) ?_
    refine pw_put S w pm_FM 0 (fs := [.int cd, .int (nI mt), .int (nI mf), .ref (ad 0), .int (nI ct), .ref (ad 1), .ref (ad 2), .ref (ad 3), .ref (ad 4), .ref (ad 5), .ref (ad 6), .int sm, .int ms, .int mg, .int mn, .int mk, .ref (ad 7)]) rfl 0 (by decide) eM_34 rfl (v := .int 1) rfl rfl (Nat.le_of_ble_eq_true rfl) dM_feed_33 (fun H locs w => ?_)
    have w : pw_S D [(cI, .int)] A (pm_W m0 ad cI 1 mt mf fd ct sc gl nu si wh pl sm ms mg mn mk md) s _ _ := w
    refine lv_aload_n hx hb dM_feed_36 rfl (lv_at hl 0 rfl) ?_
    refine pw_get S w pm_FM 0 rfl 0 (by decide) eM_34 (v := .int 1) rfl dM_feed_37 ?_
    refine lv_if_le (tgt := 45) hx hb dM_feed_40 (by decide) (fun h9 => absurd h9 (by decide)) (fun _ => ?_)
    refine lv_iconst (v := 0) hx hb dM_feed_43 (by decide) ?_
    exact pw_reti S hr hlk (1, mf, fd) w (Or.inl ⟨rfl, fun q => absurd q.1 (by have h9 := Int32.lt_iff_toInt_lt.mp h1; have : (1 : Int32).toInt = 1 := rfl; omega)⟩) (by decide) (by decide) dM_feed_44
  · refine lv_iload_n hx hb dM_feed_6 rfl (lv_at hl 2 rfl) ?_
    refine lv_bipush (v := 8) hx hb dM_feed_7 (by decide) ?_
    refine lv_icmp_le (tgt := 16) hx hb dM_feed_9 (by decide) (fun h2 => ?_) (fun h2 => ?_)
    · have hn1 : 1 ≤ n.toInt := by have h9 := pw_nlt h1; have : (1 : Int32).toInt = 1 := rfl; omega
      have hn8 : n.toInt ≤ 8 := by have h9 := Int32.le_iff_toInt_le.mp h2; have : (8 : Int32).toInt = 8 := rfl; omega
      obtain ⟨n9, hn9, rfl⟩ := nI_of (x := n) (by rw [Int32.lt_iff_toInt_lt]; have : (0 : Int32).toInt = 0 := rfl; omega)
      rw [nI_toInt hn9] at hn1 hn8
      clear h1 h2
      refine lv_aload_n hx hb dM_feed_16 rfl (lv_at hl 0 rfl) ?_
      refine pw_get S w pm_FM 0 rfl 2 (by decide) eM_38 (v := .int (nI mf)) rfl dM_feed_17 ?_
      refine lv_iload_n hx hb dM_feed_20 rfl (lv_at hl 2 rfl) ?_
      refine lv_iadd hx hb dM_feed_21 ?_
      refine pw_top (y := nI (mf + n9)) (nI_add mf n9) ?_
      refine lv_sipush (v := 1480) hx hb dM_feed_22 (by decide) ?_
      refine lv_icmp_le (tgt := 32) hx hb dM_feed_25 (by decide) (fun h1 => ?_) (fun h1 => ?_)
      · have h9 : mf + n9 ≤ 1480 := (nI_leI (a := mf + n9) (b := 1480) (by omega) (by decide)).mp h1
        refine lv_iconst (v := 0) hx hb dM_feed_32 (by decide) ?_
        refine pw_put S w pm_FM 0 (fs := [.int cd, .int (nI mt), .int (nI mf), .ref (ad 0), .int (nI ct), .ref (ad 1), .ref (ad 2), .ref (ad 3), .ref (ad 4), .ref (ad 5), .ref (ad 6), .int sm, .int ms, .int mg, .int mn, .int mk, .ref (ad 7)]) rfl 0 (by decide) eM_34 rfl (v := .int 0) rfl rfl (Nat.le_of_ble_eq_true rfl) dM_feed_33 (fun H locs w => ?_)
        have w : pw_S D [(cI, .int)] A (pm_W m0 ad cI 0 mt mf fd ct sc gl nu si wh pl sm ms mg mn mk md) s _ _ := w
        refine lv_aload_n hx hb dM_feed_36 rfl (lv_at hl 0 rfl) ?_
        refine pw_get S w pm_FM 0 rfl 0 (by decide) eM_34 (v := .int 0) rfl dM_feed_37 ?_
        refine lv_if_le (tgt := 45) hx hb dM_feed_40 (by decide) (fun _ => ?_) (fun h9 => absurd (by decide) h9)
        refine lv_iload_n hx hb dM_feed_45 rfl (lv_at hl 2 rfl) ?_
        refine lv_iconst (v := 1) hx hb dM_feed_46 (by decide) ?_
        refine lv_isub hx hb dM_feed_47 ?_
        refine pw_top (y := nI (n9 - 1)) (px_pred (by omega)) ?_
        refine lv_istore (lv' := [(4, .int (nI (n9 - 1))), (0, .ref m0), (1, .long x), (3, .int (nI n9))]) hx hb dM_feed_48 hl (by decide) rfl (fun ls hl => ?_)
        have hst : nI (n9 - 1) = nI (n9 - 0) - 1 := by rw [Nat.sub_zero, px_pred (by omega)]
        rw [hst] at hl
        have loop : ∀ (n : Nat) (i : Nat), i ≤ n9 → n9 < i + n → ∀ (H : Heap) (locs : List Loc), pw_S D [(cI, .int)] A (pm_W m0 ad cI 0 mt (mf + i) (pm_fd fd mf x n9 i) ct sc gl nu si wh pl sm ms mg mn mk md) s H locs → ∀ (ls : Array Slot), lv_has ls 5 [(4, .int (nI (n9 - i) - 1)), (0, .ref m0), (1, .long x), (3, .int (nI n9))] → W p l e ({ frames := 0, cells := 0, slots := 0, locals := 0 }) s m #[Value.ref m0, Value.long x, Value.int (nI n9)] below meth c H locs 0 0 (MQ below (va_Qi (S := Int32 × Nat × (Nat → Int32)) (fun r u => (u = (1, mf, fd) ∧ ¬ (1 ≤ (nI n9).toInt ∧ (nI n9).toInt ≤ 8)) ∨ (u = (2, mf, fd) ∧ (1 ≤ (nI n9).toInt ∧ (nI n9).toInt ≤ 8) ∧ 1480 < (mf : Int) + (nI n9).toInt) ∨ ∃ n8, 1 ≤ n8 ∧ n8 ≤ 8 ∧ nI n9 = nI n8 ∧ mf + n8 ≤ 1480 ∧ u = (0, mf + n8, pm_fd fd mf x n8 n8) ∧ r = nI (mf + n8)) (pw_B D (fun u => pm_W m0 ad cI u.1 mt u.2.1 u.2.2 ct sc gl nu si wh pl sm ms mg mn mk md) (fun _ => [(cI, .int)]) A) A) #[Value.ref m0, Value.long x, Value.int (nI n9)] s 0 0 A) (F0 m 50 ls []) := by
          intro n
          induction n with
          | zero => intros; omega
          | succ n ih =>
            intro i hi hn H locs w ls hl
            refine lv_iload hx hb dM_feed_50 (lv_at hl 0 rfl) ?_
            refine lv_if_lt (tgt := 92) hx hb dM_feed_52 (by decide) (fun h2 => ?_) (fun h2 => ?_)
            · have e9 : i = n9 := by
                rcases Nat.lt_or_ge i n9 with z | z
                · rw [px_pred (by omega)] at h2; exact absurd h2 (nI_pos (by omega))
                · omega
              subst e9
              refine lv_aload_n hx hb dM_feed_92 rfl (lv_at hl 1 rfl) ?_
              refine pw_get S w pm_FM 0 rfl 2 (by decide) eM_38 (v := .int (nI (mf + i))) rfl dM_feed_93 ?_
              exact pw_reti S hr hlk (0, mf + i, pm_fd fd mf x i i) w (Or.inr (Or.inr ⟨i, by omega, by omega, rfl, by omega, rfl, rfl⟩)) (by decide) (by decide) dM_feed_96
            · have hlt : i < n9 := by
                rcases Nat.lt_or_ge i n9 with z | z
                · exact z
                · rw [show n9 - i = 0 by omega] at h2; exact absurd (by decide) h2
              have hk : nI (n9 - i) - 1 = nI (n9 - 1 - i) := by rw [px_pred (by omega)]; congr 1; omega
              rw [hk] at hl
              refine lv_aload_n hx hb dM_feed_55 rfl (lv_at hl 1 rfl) ?_
              refine pw_get S w pm_FM 0 rfl 3 (by decide) eM_7 (v := .ref (ad 0)) rfl dM_feed_56 ?_
              refine lv_aload_n hx hb dM_feed_59 rfl (lv_at hl 1 rfl) ?_
              refine pw_get S w pm_FM 0 rfl 2 (by decide) eM_38 (v := .int (nI (mf + i))) rfl dM_feed_60 ?_
              refine lv_lload_n hx hb dM_feed_63 rfl (lv_at hl 2 rfl) ?_
              refine lv_bipush (v := 8) hx hb dM_feed_64 (by decide) ?_
              refine lv_iload hx hb dM_feed_66 (lv_at hl 0 rfl) ?_
              refine lv_imul hx hb dM_feed_68 ?_
              refine lv_lshr hx hb dM_feed_69 rfl ?_
              refine lv_ldc2 (v := 255) hx hb hown (hts _ cM_41) dM_feed_70 ?_
              refine lv_land hx hb dM_feed_73 ?_
              refine lv_l2i hx hb dM_feed_74 rfl ?_
              refine pw_top (y := pm_by x (8 * nI (n9 - 1 - i))) rfl ?_
              refine pw_iast S w 1 0 (a := ad 0) (f := pm_fd fd mf x n9 i) (n := 1480) (cA := cI) rfl rfl (j := mf + i) (by omega) (by decide) dM_feed_75 (fun H locs w => ?_)
              have w : pw_S D [(cI, .int)] A (pm_W m0 ad cI 0 mt (mf + i) (upd (pm_fd fd mf x n9 i) (mf + i) (pm_by x (8 * nI (n9 - 1 - i)))) ct sc gl nu si wh pl sm ms mg mn mk md) s _ _ := w
              have w : pw_S D [(cI, .int)] A (pm_W m0 ad cI 0 mt (mf + i) (pm_fd fd mf x n9 (i + 1)) ct sc gl nu si wh pl sm ms mg mn mk md) s _ _ := w
              refine lv_aload_n hx hb dM_feed_76 rfl (lv_at hl 1 rfl) ?_
              refine lv_dup hx hb dM_feed_77 rfl ?_
              refine pw_get S w pm_FM 0 rfl 2 (by decide) eM_38 (v := .int (nI (mf + i))) rfl dM_feed_78 ?_
              refine lv_iconst (v := 1) hx hb dM_feed_81 (by decide) ?_
              refine lv_iadd hx hb dM_feed_82 ?_
              refine pw_top (y := nI (mf + (i + 1))) (nI_1 (mf + i)) ?_
              refine pw_put S w pm_FM 0 (fs := [.int 0, .int (nI mt), .int (nI (mf + i)), .ref (ad 0), .int (nI ct), .ref (ad 1), .ref (ad 2), .ref (ad 3), .ref (ad 4), .ref (ad 5), .ref (ad 6), .int sm, .int ms, .int mg, .int mn, .int mk, .ref (ad 7)]) rfl 2 (by decide) eM_38 rfl (v := .int (nI (mf + (i + 1)))) rfl rfl (Nat.le_of_ble_eq_true rfl) dM_feed_83 (fun H locs w => ?_)
              have w : pw_S D [(cI, .int)] A (pm_W m0 ad cI 0 mt (mf + (i + 1)) (pm_fd fd mf x n9 (i + 1)) ct sc gl nu si wh pl sm ms mg mn mk md) s _ _ := w
              refine lv_iinc (v := nI (n9 - (i + 1)) - 1) (lv' := [(4, .int (nI (n9 - (i + 1)) - 1)), (0, .ref m0), (1, .long x), (3, .int (nI n9))]) hx hb dM_feed_86 hl (k := 0) rfl (by rw [show n9 - (i + 1) = n9 - 1 - i by omega, Int32.sub_eq_add_neg]; rfl) (by decide) rfl (fun ls hl => ?_)
              refine lv_goto (tgt := 50) hx hb dM_feed_89 (by decide) ?_
              exact ih (i + 1) (by omega) (by omega) H locs w ls hl
        exact loop (n9 + 1) 0 (by omega) (by omega) _ _ w ls hl
      · have h9 : ¬ mf + n9 ≤ 1480 := fun q => h1 ((nI_leI (a := mf + n9) (b := 1480) (by omega) (by decide)).mpr q)
        refine lv_iconst (v := 2) hx hb dM_feed_28 (by decide) ?_
        refine lv_goto (tgt := 33) hx hb dM_feed_29 (by decide) ?_
        refine pw_put S w pm_FM 0 (fs := [.int cd, .int (nI mt), .int (nI mf), .ref (ad 0), .int (nI ct), .ref (ad 1), .ref (ad 2), .ref (ad 3), .ref (ad 4), .ref (ad 5), .ref (ad 6), .int sm, .int ms, .int mg, .int mn, .int mk, .ref (ad 7)]) rfl 0 (by decide) eM_34 rfl (v := .int 2) rfl rfl (Nat.le_of_ble_eq_true rfl) dM_feed_33 (fun H locs w => ?_)
        have w : pw_S D [(cI, .int)] A (pm_W m0 ad cI 2 mt mf fd ct sc gl nu si wh pl sm ms mg mn mk md) s _ _ := w
        refine lv_aload_n hx hb dM_feed_36 rfl (lv_at hl 0 rfl) ?_
        refine pw_get S w pm_FM 0 rfl 0 (by decide) eM_34 (v := .int 2) rfl dM_feed_37 ?_
        refine lv_if_le (tgt := 45) hx hb dM_feed_40 (by decide) (fun h9 => absurd h9 (by decide)) (fun _ => ?_)
        refine lv_iconst (v := 0) hx hb dM_feed_43 (by decide) ?_
        exact pw_reti S hr hlk (2, mf, fd) w (Or.inr (Or.inl ⟨rfl, by rw [nI_toInt hn9]; omega, by rw [nI_toInt hn9]; omega⟩)) (by decide) (by decide) dM_feed_44
    · refine lv_iconst (v := 1) hx hb dM_feed_12 (by decide) ?_
      refine lv_goto (tgt := 33) hx hb dM_feed_13 (by decide) ?_
      refine pw_put S w pm_FM 0 (fs := [.int cd, .int (nI mt), .int (nI mf), .ref (ad 0), .int (nI ct), .ref (ad 1), .ref (ad 2), .ref (ad 3), .ref (ad 4), .ref (ad 5), .ref (ad 6), .int sm, .int ms, .int mg, .int mn, .int mk, .ref (ad 7)]) rfl 0 (by decide) eM_34 rfl (v := .int 1) rfl rfl (Nat.le_of_ble_eq_true rfl) dM_feed_33 (fun H locs w => ?_)
      have w : pw_S D [(cI, .int)] A (pm_W m0 ad cI 1 mt mf fd ct sc gl nu si wh pl sm ms mg mn mk md) s _ _ := w
      refine lv_aload_n hx hb dM_feed_36 rfl (lv_at hl 0 rfl) ?_
      refine pw_get S w pm_FM 0 rfl 0 (by decide) eM_34 (v := .int 1) rfl dM_feed_37 ?_
      refine lv_if_le (tgt := 45) hx hb dM_feed_40 (by decide) (fun h9 => absurd h9 (by decide)) (fun _ => ?_)
      refine lv_iconst (v := 0) hx hb dM_feed_43 (by decide) ?_
      exact pw_reti S hr hlk (1, mf, fd) w (Or.inl ⟨rfl, fun q => absurd q.2 (by have h9 := pw_nle h2; have : (8 : Int32).toInt = 8 := rfl; omega)⟩) (by decide) (by decide) dM_feed_44
