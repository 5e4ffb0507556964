set_option maxHeartbeats 4000000 in
set_option maxRecDepth 100000 in
/-- piece -/
theorem px_c_piece (l : Launch) (D : va_G) (a0 af ab : Nat) (o ar : Nat → Nat) (cI cO : ClassId) (fd : Nat → Int32) (nf : Nat) (sg : Nat → Nat) (nb : Nat) (lw : Nat) (aw : Int32) (tm : Nat) (G : Nat → px_G) (B : Nat → Nat → Int32) (sz : Nat) (hl9 : l.stackTraces = false) (hnf : nf ≤ 1480) (hnb : nb ≤ 4) (hsg : ∀ q, q < 4 → sg q < 5) (hlw : lw < 5) (a b d3 fm wl : Int32) : pw_Xi l yX1_piece cX1_piece 9 .int ({ frames := 6, cells := 1, slots := 6, locals := 150 }) D (px_T cI cO) [.ref a0, .int a, .int b, .int d3, .int fm, .int wl] (px_W a0 af ab o ar cI cO fd nf sg nb lw aw tm G B) sz (σ := px_R) (fun r u => ∃ (fr wh : Nat) (x : Option Nat), fm = nI fr ∧ wl = nI wh ∧ 1 ≤ wh ∧ wh ≤ 1480 ∧ 0 < nf ∧ fr + nf ≤ wh ∧ px_fnd sg G nb a b d3 x ∧ (r, u) = px_pc fd nf fr a b d3 wl sg nb lw aw tm G B x) (fun u => px_W a0 af ab o ar cI cO fd 0 u.1 u.2.1 u.2.2.1 u.2.2.2.1 tm u.2.2.2.2.1 u.2.2.2.2.2) (fun E => (E = exIA ∧ ¬ (1 ≤ wl.toInt ∧ wl.toInt ≤ 1480 ∧ 0 ≤ fm.toInt)) ∨ (E = exIS ∧ (1 ≤ wl.toInt ∧ wl.toInt ≤ 1480 ∧ 0 ≤ fm.toInt) ∧ ¬ (0 < nf ∧ fm.toInt + nf ≤ wl.toInt))) 1 6 := by
  refine pw_openX (by decide) (Nat.le_of_ble_eq_true rfl) ?_
  intro p e s m below meth c ls S hr hlk htb hl hsz w
  obtain ⟨hx, hb, hml, hown, hts⟩ := id S
  have hl : lv_has ls 9 [(0, .ref a0), (1, .int a), (2, .int b), (3, .int d3), (4, .int fm), (5, .int wl)] := hl
  generalize va_A (px_W a0 af ab o ar cI cO fd nf sg nb lw aw tm G B) sz = A at w ⊢
  refine lv_iload hx hb dX1_piece_0 (lv_at hl 5 rfl) ?_
  refine lv_iconst (v := 1) hx hb dX1_piece_2 (by decide) ?_
  refine lv_icmp_lt (tgt := 19) hx hb dX1_piece_3 (by decide) (fun h1 => ?_) (fun h1 => ?_)
  · have h9 := Int32.lt_iff_toInt_lt.mp h1
    exact pw_throw (names := exN) S hl9 w (by decide +kernel) (by decide +kernel) eP_24 ini_IA tx40 at24_28_ok gd24_28_ok hl.1 dX1_piece_19 dX1_piece_22 dX1_piece_23 dX1_piece_25 dX1_piece_28 htb (by decide) (by decide) (by decide) (by decide) hlk (Or.inl ⟨rfl, fun q => absurd q.1 (by have : (1 : Int32).toInt = 1 := rfl; omega)⟩) (by decide) (by decide)
  · refine lv_iload hx hb dX1_piece_6 (lv_at hl 5 rfl) ?_
    refine lv_sipush (v := 1480) hx hb dX1_piece_8 (by decide) ?_
    refine lv_icmp_gt (tgt := 19) hx hb dX1_piece_11 (by decide) (fun h2 => ?_) (fun h2 => ?_)
    · have h9 := Int32.lt_iff_toInt_lt.mp h2
      exact pw_throw (names := exN) S hl9 w (by decide +kernel) (by decide +kernel) eP_24 ini_IA tx40 at24_28_ok gd24_28_ok hl.1 dX1_piece_19 dX1_piece_22 dX1_piece_23 dX1_piece_25 dX1_piece_28 htb (by decide) (by decide) (by decide) (by decide) hlk (Or.inl ⟨rfl, fun q => absurd q.2.1 (by have : (1480 : Int32).toInt = 1480 := rfl; omega)⟩) (by decide) (by decide)
    · refine lv_iload hx hb dX1_piece_14 (lv_at hl 4 rfl) ?_
      refine lv_if_ge (tgt := 29) hx hb dX1_piece_16 (by decide) (fun h3 => ?_) (fun h3 => ?_)
      · have hw1 : 1 ≤ wl.toInt := by have h9 := pw_nlt h1; have : (1 : Int32).toInt = 1 := rfl; omega
        have hw2 : wl.toInt ≤ 1480 := by have h9 := pw_nlt h2; have : (1480 : Int32).toInt = 1480 := rfl; omega
        have hf0 : 0 ≤ fm.toInt := by have h9 := Int32.le_iff_toInt_le.mp h3; have : (0 : Int32).toInt = 0 := rfl; omega
        obtain ⟨wh, hwh, ewl⟩ := nI_of (x := wl) (by rw [Int32.lt_iff_toInt_lt]; have : (0 : Int32).toInt = 0 := rfl; omega)
        obtain ⟨fr, hfr, efm⟩ := nI_of (x := fm) (by rw [Int32.lt_iff_toInt_lt]; have : (0 : Int32).toInt = 0 := rfl; omega)
        have ewi : wl.toInt = wh := by rw [ewl, nI_toInt hwh]
        have efi : fm.toInt = fr := by rw [efm, nI_toInt hfr]
        clear h1 h2 h3
        refine lv_aload_n hx hb dX1_piece_29 rfl (lv_at hl 0 rfl) ?_
        refine pw_get S w px_FP 0 rfl 1 (by decide) eP_31 (v := .int (nI nf)) rfl dX1_piece_30 ?_
        refine lv_if_eq (tgt := 48) hx hb dX1_piece_33 (by decide) (fun h1 => ?_) (fun h1 => ?_)
        · have h9 : nf = 0 := (nI_eq (a := nf) (b := 0) (by omega) (by decide)).mp h1
          exact pw_throw (names := exN) S hl9 w (by decide +kernel) (by decide +kernel) eP_35 ini_IS tx42 at35_39_ok gd35_39_ok hl.1 dX1_piece_48 dX1_piece_51 dX1_piece_52 dX1_piece_54 dX1_piece_57 htb (by decide) (by decide) (by decide) (by decide) hlk (Or.inr ⟨rfl, ⟨hw1, hw2, hf0⟩, fun q => by omega⟩) (by decide) (by decide)
        · have hnf0 : 0 < nf := Nat.pos_of_ne_zero (fun q => h1 (by rw [q]; rfl))
          refine lv_iload hx hb dX1_piece_36 (lv_at hl 4 rfl) ?_
          refine lv_iload hx hb dX1_piece_38 (lv_at hl 5 rfl) ?_
          refine lv_aload_n hx hb dX1_piece_40 rfl (lv_at hl 0 rfl) ?_
          refine pw_get S w px_FP 0 rfl 1 (by decide) eP_31 (v := .int (nI nf)) rfl dX1_piece_41 ?_
          refine lv_isub hx hb dX1_piece_44 ?_
          refine lv_icmp_le (tgt := 58) hx hb dX1_piece_45 (by decide) (fun h2 => ?_) (fun h2 => ?_)
          · have h9 := Int32.le_iff_toInt_le.mp h2
            have h8 : (wl - nI nf).toInt = (wh : Int) - nf := by rw [ewl]; exact pk_sub_toInt (by omega) (by omega)
            have hfit : fr + nf ≤ wh := by rw [h8] at h9; omega
            clear h9 h8 h2 h1
            refine lv_aload_n hx hb dX1_piece_58 rfl (lv_at hl 0 rfl) ?_
            refine pw_get S w px_FP 0 rfl 1 (by decide) eP_31 (v := .int (nI nf)) rfl dX1_piece_59 ?_
            refine lv_istore (lv' := [(6, .int (nI nf)), (0, .ref a0), (1, .int a), (2, .int b), (3, .int d3), (4, .int fm), (5, .int wl)]) hx hb dX1_piece_62 hl (by decide) rfl (fun ls hl => ?_)
            refine lv_aload_n hx hb dX1_piece_64 rfl (lv_at hl 1 rfl) ?_
            refine lv_iconst (v := 0) hx hb dX1_piece_65 (by decide) ?_
            refine pw_top (y := nI 0) rfl ?_
            refine pw_put S w px_FP 0 (fs := [.ref af, .int (nI nf), .ref ab, .int (nI nb), .ref (o lw), .int aw, .int (nI tm)]) rfl 1 (by decide) eP_31 rfl (v := .int (nI 0)) rfl rfl (Nat.le_of_ble_eq_true rfl) dX1_piece_66 (fun H locs w => ?_)
            have w : pw_S D (px_T cI cO) A (px_W a0 af ab o ar cI cO fd 0 sg nb lw aw tm G B) s _ _ := w
            refine lv_aload_n hx hb dX1_piece_69 rfl (lv_at hl 1 rfl) ?_
            refine lv_iload_n hx hb dX1_piece_70 rfl (lv_at hl 2 rfl) ?_
            refine lv_iload_n hx hb dX1_piece_71 rfl (lv_at hl 3 rfl) ?_
            refine lv_iload_n hx hb dX1_piece_72 rfl (lv_at hl 4 rfl) ?_
            have tail : ∀ (k n1 : Nat) (s1 : Nat → Nat) (G1 : Nat → px_G) (B1 : Nat → Nat → Int32), k < n1 → n1 ≤ 4 → (∀ q, q < 4 → s1 q < 5) → (∃ x, px_fnd sg G nb a b d3 x ∧ px_tk fd nf fr wl k s1 n1 lw aw G1 B1 = px_pc fd nf fr a b d3 wl sg nb lw aw tm G B x) → ∀ (H : Heap) (locs : List Loc), pw_S D (px_T cI cO) A (px_W a0 af ab o ar cI cO fd 0 s1 n1 lw aw tm G1 B1) s H locs → ∀ (ls : Array Slot), lv_has ls 9 [(7, .int (nI k)), (6, .int (nI nf)), (0, .ref a0), (1, .int a), (2, .int b), (3, .int d3), (4, .int fm), (5, .int wl)] → W p l e ({ frames := 6, cells := 1, slots := 6, locals := 150 }) s m #[Value.ref a0, Value.int a, Value.int b, Value.int d3, Value.int fm, Value.int wl] below meth c H locs 0 0 (vx_MQ below (va_Qi (S := px_R) (fun r u => ∃ (fr wh : Nat) (x : Option Nat), fm = nI fr ∧ wl = nI wh ∧ 1 ≤ wh ∧ wh ≤ 1480 ∧ 0 < nf ∧ fr + nf ≤ wh ∧ px_fnd sg G nb a b d3 x ∧ (r, u) = px_pc fd nf fr a b d3 wl sg nb lw aw tm G B x) (pw_B D (fun u => px_W a0 af ab o ar cI cO fd 0 u.1 u.2.1 u.2.2.1 u.2.2.2.1 tm u.2.2.2.2.1 u.2.2.2.2.2) (fun _ => px_T cI cO) A) A) (pw_X D (px_W a0 af ab o ar cI cO fd nf sg nb lw aw tm G B) (fun E => (E = exIA ∧ ¬ (1 ≤ wl.toInt ∧ wl.toInt ≤ 1480 ∧ 0 ≤ fm.toInt)) ∨ (E = exIS ∧ (1 ≤ wl.toInt ∧ wl.toInt ≤ 1480 ∧ 0 ≤ fm.toInt) ∧ ¬ (0 < nf ∧ fm.toInt + nf ≤ wl.toInt))) A) #[Value.ref a0, Value.int a, Value.int b, Value.int d3, Value.int fm, Value.int wl] s 1 6 A) (F0 m 95 ls []) := by
              intro k n1 s1 G1 B1 hk hn1 hs1 hres H locs w ls hl
              obtain ⟨x, hfx, hres⟩ := hres
              have hj : s1 k < 5 := hs1 k (by omega)
              refine lv_aload_n hx hb dX1_piece_95 rfl (lv_at hl 2 rfl) ?_
              refine pw_get S w px_FP 0 rfl 2 (by decide) eP_15 (v := .ref ab) rfl dX1_piece_96 ?_
              refine lv_iload hx hb dX1_piece_99 (lv_at hl 0 rfl) ?_
              refine pw_aald S w 2 1 (v := o (s1 k)) rfl rfl (j := k) (by omega) (by decide) (px_bf_at (by omega)) dX1_piece_101 ?_
              refine lv_astore (lv' := [(8, .ref (o (s1 k))), (7, .int (nI k)), (6, .int (nI nf)), (0, .ref a0), (1, .int a), (2, .int b), (3, .int d3), (4, .int fm), (5, .int wl)]) hx hb dX1_piece_102 hl (by decide) rfl (fun ls hl => ?_)
              refine lv_aload hx hb dX1_piece_104 (lv_at hl 0 rfl) ?_
              refine pw_getN S w px_FD (3 + 2 * (s1 k)) (px_ato hj) 4 (by decide) eP_52 (v := .int (G1 (s1 k)).2.2.2.1) rfl dX1_piece_106 ?_
              refine lv_iload hx hb dX1_piece_109 (lv_at hl 8 rfl) ?_
              refine lv_icmp_eq (tgt := 116) hx hb dX1_piece_111 (by decide) (fun h1 => ?_) (fun h1 => ?_)
              · refine lv_aload hx hb dX1_piece_116 (lv_at hl 0 rfl) ?_
                refine lv_aload_n hx hb dX1_piece_118 rfl (lv_at hl 3 rfl) ?_
                refine pw_get S w px_FP 0 rfl 0 (by decide) eP_9 (v := .ref af) rfl dX1_piece_119 ?_
                refine lv_iload hx hb dX1_piece_122 (lv_at hl 2 rfl) ?_
                refine lv_iload hx hb dX1_piece_124 (lv_at hl 7 rfl) ?_
                have w : pw_S D (px_T cI cO) A (px_W a0 af ab o ar cI cO fd 0 s1 n1 lw aw tm (va_up G1 (s1 k) (G1 (s1 k))) (va_up B1 (s1 k) (B1 (s1 k)))) s _ _ := w.to (by rw [px_id, px_id])
                refine pw_gov0 w.all (va_runVN (C := RD) (As := [.ref af, .int (nI nf), .int fm]) (rest := []) S (by rw [efm]; exact px_c_take l D a0 af ab o ar cI cO fd 0 s1 n1 lw aw tm G1 B1 _ (s1 k) hj (G1 (s1 k)) (B1 (s1 k)) nf fr (by omega)) (⟨pw_cn (n := 3) S w.2.2.2.2.2 eP_55 iniD kD_take rfl rfl (by decide +kernel) ⟨by decide, by decide⟩, S.2.2.2.2 _ iD_take, S.2.2.2.2 _ sD_take⟩) ⟨pw_blind, va_recv w.1 w.2.1 (ci := cD) (q0 := (3 + 2 * (s1 k))) rfl (px_ato' hj), pw_pre w.all w.1⟩ rfl rfl hl.1 rfl (lv_room (Nat.le_of_ble_eq_true rfl)) dX1_piece_126 ⟨Nat.zero_le _, Nat.zero_le _⟩) (fun  _ H locs _ _ w => ?_)
                have w := w.one
                have w : pw_S D (px_T cI cO) A (px_W a0 af ab o ar cI cO fd 0 s1 n1 lw aw tm (va_up G1 (s1 k) ((G1 (s1 k)).1, (G1 (s1 k)).2.1, (G1 (s1 k)).2.2.1, (G1 (s1 k)).2.2.2.1, px_tL (B1 (s1 k)) fd fr (G1 (s1 k)).2.2.2.2.1 nf, (G1 (s1 k)).2.2.2.2.2)) (va_up B1 (s1 k) (px_tB (B1 (s1 k)) fd fr nf))) s _ _ := w
                refine lv_aload hx hb dX1_piece_129 (lv_at hl 0 rfl) ?_
                refine pw_getN S w px_FD (3 + 2 * (s1 k)) (px_ato' hj) 5 (by decide) eP_59 (v := .int (px_tL (B1 (s1 k)) fd fr (G1 (s1 k)).2.2.2.2.1 nf)) rfl dX1_piece_131 ?_
                refine lv_if_le (tgt := 139) hx hb dX1_piece_134 (by decide) (fun h2 => ?_) (fun h2 => ?_)
                · refine lv_aload_n hx hb dX1_piece_139 rfl (lv_at hl 3 rfl) ?_
                  refine lv_iload hx hb dX1_piece_140 (lv_at hl 1 rfl) ?_
                  refine pw_gov0 w.all (va_runV (C := RP) (As := [.int (nI k)]) (rest := []) S (px_c_finish l D a0 af ab o ar cI cO fd 0 s1 n1 lw aw tm (va_up G1 (s1 k) ((G1 (s1 k)).1, (G1 (s1 k)).2.1, (G1 (s1 k)).2.2.1, (G1 (s1 k)).2.2.2.1, px_tL (B1 (s1 k)) fd fr (G1 (s1 k)).2.2.2.2.1 nf, (G1 (s1 k)).2.2.2.2.2)) (va_up B1 (s1 k) (px_tB (B1 (s1 k)) fd fr nf)) _ k hk hn1 hs1 hlw) (pw_cw (n := 1) S eP_62 iP_finish sP_finish iniP kP_finish rfl rfl (by decide +kernel) ⟨by decide, by decide⟩) ⟨pw_blind, va_recv w.1 w.2.1 (ci := cP) (q0 := 0) rfl rfl, pw_pre w.all w.1⟩ rfl rfl hl.1 rfl (lv_room (Nat.le_of_ble_eq_true rfl)) dX1_piece_142 ⟨Nat.zero_le _, Nat.zero_le _⟩) (fun  _ H locs _ _ w => ?_)
                  have w := w.one
                  have e9 : px_tk fd nf fr wl k s1 n1 lw aw G1 B1 = (1, va_up (px_rot s1 k n1) (n1 - 1) lw, n1 - 1, px_rot s1 k n1 (n1 - 1), 1, va_up G1 (s1 k) ((G1 (s1 k)).1, (G1 (s1 k)).2.1, (G1 (s1 k)).2.2.1, (G1 (s1 k)).2.2.2.1, px_tL (B1 (s1 k)) fd fr (G1 (s1 k)).2.2.2.2.1 nf, (G1 (s1 k)).2.2.2.2.2), va_up B1 (s1 k) (px_tB (B1 (s1 k)) fd fr nf)) := (if_pos h1).trans (if_pos h2)
                  have w : pw_S D (px_T cI cO) A (px_W a0 af ab o ar cI cO fd 0 (va_up (px_rot s1 k n1) (n1 - 1) lw) (n1 - 1) (px_rot s1 k n1 (n1 - 1)) 1 tm (va_up G1 (s1 k) ((G1 (s1 k)).1, (G1 (s1 k)).2.1, (G1 (s1 k)).2.2.1, (G1 (s1 k)).2.2.2.1, px_tL (B1 (s1 k)) fd fr (G1 (s1 k)).2.2.2.2.1 nf, (G1 (s1 k)).2.2.2.2.2)) (va_up B1 (s1 k) (px_tB (B1 (s1 k)) fd fr nf))) s _ _ := w
                  refine lv_iconst (v := 1) hx hb dX1_piece_145 (by decide) ?_
                  refine vx_ret ?_
                  exact pw_reti S hr hlk (va_up (px_rot s1 k n1) (n1 - 1) lw, n1 - 1, px_rot s1 k n1 (n1 - 1), 1, va_up G1 (s1 k) ((G1 (s1 k)).1, (G1 (s1 k)).2.1, (G1 (s1 k)).2.2.1, (G1 (s1 k)).2.2.2.1, px_tL (B1 (s1 k)) fd fr (G1 (s1 k)).2.2.2.2.1 nf, (G1 (s1 k)).2.2.2.2.2), va_up B1 (s1 k) (px_tB (B1 (s1 k)) fd fr nf)) w ⟨fr, wh, x, efm, ewl, by omega, by omega, hnf0, hfit, hfx, by rw [← hres, e9]⟩ (by decide) (by decide) dX1_piece_146
                · have e9 : px_tk fd nf fr wl k s1 n1 lw aw G1 B1 = (0, s1, n1, lw, aw, va_up G1 (s1 k) ((G1 (s1 k)).1, (G1 (s1 k)).2.1, (G1 (s1 k)).2.2.1, (G1 (s1 k)).2.2.2.1, px_tL (B1 (s1 k)) fd fr (G1 (s1 k)).2.2.2.2.1 nf, (G1 (s1 k)).2.2.2.2.2), va_up B1 (s1 k) (px_tB (B1 (s1 k)) fd fr nf)) := (if_pos h1).trans (if_neg h2)
                  refine lv_iconst (v := 0) hx hb dX1_piece_137 (by decide) ?_
                  refine vx_ret ?_
                  exact pw_reti S hr hlk (s1, n1, lw, aw, va_up G1 (s1 k) ((G1 (s1 k)).1, (G1 (s1 k)).2.1, (G1 (s1 k)).2.2.1, (G1 (s1 k)).2.2.2.1, px_tL (B1 (s1 k)) fd fr (G1 (s1 k)).2.2.2.2.1 nf, (G1 (s1 k)).2.2.2.2.2), va_up B1 (s1 k) (px_tB (B1 (s1 k)) fd fr nf)) w ⟨fr, wh, x, efm, ewl, by omega, by omega, hnf0, hfit, hfx, by rw [← hres, e9]⟩ (by decide) (by decide) dX1_piece_138
              · refine lv_iconst (v := (-1)) hx hb dX1_piece_114 (by decide) ?_
                have e9 : px_tk fd nf fr wl k s1 n1 lw aw G1 B1 = (-1, s1, n1, lw, aw, G1, B1) := if_neg h1
                refine vx_ret ?_
                exact pw_reti S hr hlk (s1, n1, lw, aw, G1, B1) w ⟨fr, wh, x, efm, ewl, by omega, by omega, hnf0, hfit, hfx, by rw [← hres, e9]⟩ (by decide) (by decide) dX1_piece_115
            refine pw_goi0 w.all (va_runV (C := RP) (As := [.int a, .int b, .int d3]) (rest := []) S (px_c_placeOf l D a0 af ab o ar cI cO fd 0 sg nb lw aw tm G B _ hnb hsg a b d3) (pw_cw (n := 3) S eP_44 iP_placeOf sP_placeOf iniP kP_placeOf rfl rfl (by decide +kernel) ⟨by decide, by decide⟩) ⟨pw_blind, va_recv w.1 w.2.1 (ci := cP) (q0 := 0) rfl rfl, pw_pre w.all w.1⟩ rfl rfl hl.1 rfl (lv_room (Nat.le_of_ble_eq_true rfl)) dX1_piece_73 ⟨Nat.zero_le _, Nat.zero_le _⟩) (fun r _ H locs hp w => ?_)
            have w := w.one
            have w : pw_S D (px_T cI cO) A (px_W a0 af ab o ar cI cO fd 0 sg nb lw aw tm G B) s _ _ := w
            obtain ⟨x, hfx, rfl⟩ := hp
            refine lv_istore (lv' := [(7, .int (px_ix x)), (6, .int (nI nf)), (0, .ref a0), (1, .int a), (2, .int b), (3, .int d3), (4, .int fm), (5, .int wl)]) hx hb dX1_piece_76 hl (by decide) rfl (fun ls hl => ?_)
            refine lv_iload hx hb dX1_piece_78 (lv_at hl 0 rfl) ?_
            refine lv_iconst (v := (-1)) hx hb dX1_piece_80 (by decide) ?_
            refine lv_icmp_ne (tgt := 95) hx hb dX1_piece_81 (by decide) (fun h1 => ?_) (fun h1 => ?_)
            · obtain ⟨k, rfl⟩ : ∃ k, x = some k := by cases x with | none => exact absurd rfl h1 | some k => exact ⟨k, rfl⟩
              exact tail k nb sg G B hfx.1 hnb hsg ⟨some k, hfx, rfl⟩ _ _ w ls hl
            · have hx0 : x = none := px_ix_none (fun k hk => by subst hk; exact Nat.lt_of_lt_of_le hfx.1 (by omega)) h1
              subst hx0
              refine lv_aload_n hx hb dX1_piece_84 rfl (lv_at hl 2 rfl) ?_
              refine lv_iload_n hx hb dX1_piece_85 rfl (lv_at hl 3 rfl) ?_
              refine lv_iload_n hx hb dX1_piece_86 rfl (lv_at hl 4 rfl) ?_
              refine lv_iload_n hx hb dX1_piece_87 rfl (lv_at hl 5 rfl) ?_
              refine lv_iload hx hb dX1_piece_88 (lv_at hl 7 rfl) ?_
              refine pw_goi0 w.all (va_runV (C := RP) (As := [.int a, .int b, .int d3, .int wl]) (rest := []) S (px_c_beginOnBench l D a0 af ab o ar cI cO fd 0 sg nb lw aw tm G B _ hnb hsg a b d3 wl) (pw_cw (n := 4) S eP_48 iP_beginOnBench sP_beginOnBench iniP kP_beginOnBench rfl rfl (by decide +kernel) ⟨by decide, by decide⟩) ⟨pw_blind, va_recv w.1 w.2.1 (ci := cP) (q0 := 0) rfl rfl, pw_pre w.all w.1⟩ rfl rfl hl.1 rfl (lv_room (Nat.le_of_ble_eq_true rfl)) dX1_piece_90 ⟨Nat.zero_le _, Nat.zero_le _⟩) (fun r _ H locs hp w => ?_)
              have w := w.one
              have w : pw_S D (px_T cI cO) A (px_W a0 af ab o ar cI cO fd 0 ((px_mk sg nb).1) ((px_mk sg nb).2 + 1) lw aw tm (va_up G ((px_mk sg nb).1 (px_mk sg nb).2) (a, b, d3, wl, wl, nI tm)) (va_up B ((px_mk sg nb).1 (px_mk sg nb).2) (px_fl (B ((px_mk sg nb).1 (px_mk sg nb).2)) (-1) 1480))) s _ _ := w
              subst hp
              refine lv_istore (lv' := [(7, .int (nI (px_mk sg nb).2)), (6, .int (nI nf)), (0, .ref a0), (1, .int a), (2, .int b), (3, .int d3), (4, .int fm), (5, .int wl)]) hx hb dX1_piece_93 hl (by decide) rfl (fun ls hl => ?_)
              exact tail (px_mk sg nb).2 ((px_mk sg nb).2 + 1) (px_mk sg nb).1 _ _ (Nat.lt_succ_self _) (px_mk_le hnb) (px_mk_lt hnb hsg) ⟨none, hfx, rfl⟩ _ _ w ls hl
          · have h9 := fun q => h2 (Int32.le_iff_toInt_le.mpr q)
            have h8 : (wl - nI nf).toInt = (wh : Int) - nf := by rw [ewl]; exact pk_sub_toInt (by omega) (by omega)
            exact pw_throw (names := exN) S hl9 w (by decide +kernel) (by decide +kernel) eP_35 ini_IS tx42 at35_39_ok gd35_39_ok hl.1 dX1_piece_48 dX1_piece_51 dX1_piece_52 dX1_piece_54 dX1_piece_57 htb (by decide) (by decide) (by decide) (by decide) hlk (Or.inr ⟨rfl, ⟨hw1, hw2, hf0⟩, fun q => h9 (by rw [h8]; omega)⟩) (by decide) (by decide)
      · have h9 := fun q => h3 (Int32.le_iff_toInt_le.mpr q)
        exact pw_throw (names := exN) S hl9 w (by decide +kernel) (by decide +kernel) eP_24 ini_IA tx40 at24_28_ok gd24_28_ok hl.1 dX1_piece_19 dX1_piece_22 dX1_piece_23 dX1_piece_25 dX1_piece_28 htb (by decide) (by decide) (by decide) (by decide) hlk (Or.inl ⟨rfl, fun q => h9 (by have : (0 : Int32).toInt = 0 := rfl; omega)⟩) (by decide) (by decide)
