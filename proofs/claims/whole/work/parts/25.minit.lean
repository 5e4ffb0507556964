set_option maxHeartbeats 4000000 in
set_option maxRecDepth 100000 in
/-- the reference: its constructor -/
theorem pm_c_init (l : Launch) (D : va_G) (m0 sz : Nat) : pw_Mv l yM_init cM_init 1 ({ frames := 1, cells := 8, slots := 10385, locals := 60 }) D [] [.ref m0] [(m0, .inr (cM, [.int 0, .int 0, .int 0, .null, .int 0, .null, .null, .null, .null, .null, .null, .int 0, .int 0, .int 0, .int 0, .int 0, .null]))] sz (σ := (Nat → Nat) × ClassId) (fun _ => True) (fun u => pm_W m0 u.1 u.2 0 0 0 (fun _ => 0) 0 (fun _ => 0) (fun _ => 0) (fun _ => 0) (fun _ => 0) (fun _ => 0) (fun _ => 0) 0 0 0 0 0 (fun _ => 0)) (fun u => [(u.2, .int)]) 8 10385 := by
  refine pw_openV (by decide) (Nat.le_of_ble_eq_true rfl) ?_
  intro p e s m below meth c ls S hr hlk hnm hl hsz w
  obtain ⟨hx, hb, hml, hown, hts⟩ := id S
  have hl : lv_has ls 1 [(0, .ref m0)] := hl
  generalize va_A [(m0, .inr (cM, [.int 0, .int 0, .int 0, .null, .int 0, .null, .null, .null, .null, .null, .null, .int 0, .int 0, .int 0, .int 0, .int 0, .null]))] sz = A at w ⊢
  refine lv_aload_n hx hb dM_init_0 rfl (lv_at hl 0 rfl) ?_
  refine pw_oinit S eM_1 iO kO hl.1 (by decide) (by decide) dM_init_1 ?_
  refine lv_aload_n hx hb dM_init_4 rfl (lv_at hl 0 rfl) ?_
  refine lv_sipush (v := 1480) hx hb dM_init_5 (by decide) ?_
  refine pw_newi S w arI (n := 1480) (N := 1480) (by decide) (by decide) (by decide) (by decide) (by decide) dM_init_8 (fun q0 c0 H w => ?_)
  have w : pw_S D [(c0, .int)] A [(m0, .inr (cM, [.int 0, .int 0, .int 0, .null, .int 0, .null, .null, .null, .null, .null, .null, .int 0, .int 0, .int 0, .int 0, .int 0, .null])), (q0, .inl (c0, 1480, .inl (fun _ => 0)))] s _ _ := w
  refine pw_putF S w pm_FM 0 (fs := [.int 0, .int 0, .int 0, .null, .int 0, .null, .null, .null, .null, .null, .null, .int 0, .int 0, .int 0, .int 0, .int 0, .null]) rfl 3 (by decide) eM_7 rfl hnm rfl (v := .ref q0) rfl rfl (Nat.le_of_ble_eq_true rfl) dM_init_10 (fun H locs w => ?_)
  have w : pw_S D [(c0, .int)] A [(m0, .inr (cM, [.int 0, .int 0, .int 0, .ref q0, .int 0, .null, .null, .null, .null, .null, .null, .int 0, .int 0, .int 0, .int 0, .int 0, .null])), (q0, .inl (c0, 1480, .inl (fun _ => 0)))] s _ _ := w
  refine lv_aload_n hx hb dM_init_13 rfl (lv_at hl 0 rfl) ?_
  refine lv_iconst (v := 5) hx hb dM_init_14 (by decide) ?_
  refine pw_newi S w arI (n := 5) (N := 5) (by decide) (by decide) (by decide) (by decide) (by decide) dM_init_15 (fun q1 c1 H w => ?_)
  have e9 : c0 = c1 := pw_cI w.1 w.1 (i := 0) (j := 1) rfl rfl
  subst e9
  have w : pw_S D [(c0, .int)] A [(m0, .inr (cM, [.int 0, .int 0, .int 0, .ref q0, .int 0, .null, .null, .null, .null, .null, .null, .int 0, .int 0, .int 0, .int 0, .int 0, .null])), (q0, .inl (c0, 1480, .inl (fun _ => 0))), (q1, .inl (c0, 5, .inl (fun _ => 0)))] s _ _ := ⟨w.1.sub (tys' := [(c0, .int)]) [0] rfl, w.2⟩
  refine pw_putF S w pm_FM 0 (fs := [.int 0, .int 0, .int 0, .ref q0, .int 0, .null, .null, .null, .null, .null, .null, .int 0, .int 0, .int 0, .int 0, .int 0, .null]) rfl 5 (by decide) eM_13 rfl hnm rfl (v := .ref q1) rfl rfl (Nat.le_of_ble_eq_true rfl) dM_init_17 (fun H locs w => ?_)
  have w : pw_S D [(c0, .int)] A [(m0, .inr (cM, [.int 0, .int 0, .int 0, .ref q0, .int 0, .ref q1, .null, .null, .null, .null, .null, .int 0, .int 0, .int 0, .int 0, .int 0, .null])), (q0, .inl (c0, 1480, .inl (fun _ => 0))), (q1, .inl (c0, 5, .inl (fun _ => 0)))] s _ _ := w
  refine lv_aload_n hx hb dM_init_20 rfl (lv_at hl 0 rfl) ?_
  refine lv_iconst (v := 5) hx hb dM_init_21 (by decide) ?_
  refine pw_newi S w arI (n := 5) (N := 5) (by decide) (by decide) (by decide) (by decide) (by decide) dM_init_22 (fun q2 c2 H w => ?_)
  have e9 : c0 = c2 := pw_cI w.1 w.1 (i := 0) (j := 1) rfl rfl
  subst e9
  have w : pw_S D [(c0, .int)] A [(m0, .inr (cM, [.int 0, .int 0, .int 0, .ref q0, .int 0, .ref q1, .null, .null, .null, .null, .null, .int 0, .int 0, .int 0, .int 0, .int 0, .null])), (q0, .inl (c0, 1480, .inl (fun _ => 0))), (q1, .inl (c0, 5, .inl (fun _ => 0))), (q2, .inl (c0, 5, .inl (fun _ => 0)))] s _ _ := ⟨w.1.sub (tys' := [(c0, .int)]) [0] rfl, w.2⟩
  refine pw_putF S w pm_FM 0 (fs := [.int 0, .int 0, .int 0, .ref q0, .int 0, .ref q1, .null, .null, .null, .null, .null, .int 0, .int 0, .int 0, .int 0, .int 0, .null]) rfl 6 (by decide) eM_16 rfl hnm rfl (v := .ref q2) rfl rfl (Nat.le_of_ble_eq_true rfl) dM_init_24 (fun H locs w => ?_)
  have w : pw_S D [(c0, .int)] A [(m0, .inr (cM, [.int 0, .int 0, .int 0, .ref q0, .int 0, .ref q1, .ref q2, .null, .null, .null, .null, .int 0, .int 0, .int 0, .int 0, .int 0, .null])), (q0, .inl (c0, 1480, .inl (fun _ => 0))), (q1, .inl (c0, 5, .inl (fun _ => 0))), (q2, .inl (c0, 5, .inl (fun _ => 0)))] s _ _ := w
  refine lv_aload_n hx hb dM_init_27 rfl (lv_at hl 0 rfl) ?_
  refine lv_iconst (v := 5) hx hb dM_init_28 (by decide) ?_
  refine pw_newi S w arI (n := 5) (N := 5) (by decide) (by decide) (by decide) (by decide) (by decide) dM_init_29 (fun q3 c3 H w => ?_)
  have e9 : c0 = c3 := pw_cI w.1 w.1 (i := 0) (j := 1) rfl rfl
  subst e9
  have w : pw_S D [(c0, .int)] A [(m0, .inr (cM, [.int 0, .int 0, .int 0, .ref q0, .int 0, .ref q1, .ref q2, .null, .null, .null, .null, .int 0, .int 0, .int 0, .int 0, .int 0, .null])), (q0, .inl (c0, 1480, .inl (fun _ => 0))), (q1, .inl (c0, 5, .inl (fun _ => 0))), (q2, .inl (c0, 5, .inl (fun _ => 0))), (q3, .inl (c0, 5, .inl (fun _ => 0)))] s _ _ := ⟨w.1.sub (tys' := [(c0, .int)]) [0] rfl, w.2⟩
  refine pw_putF S w pm_FM 0 (fs := [.int 0, .int 0, .int 0, .ref q0, .int 0, .ref q1, .ref q2, .null, .null, .null, .null, .int 0, .int 0, .int 0, .int 0, .int 0, .null]) rfl 7 (by decide) eM_19 rfl hnm rfl (v := .ref q3) rfl rfl (Nat.le_of_ble_eq_true rfl) dM_init_31 (fun H locs w => ?_)
  have w : pw_S D [(c0, .int)] A [(m0, .inr (cM, [.int 0, .int 0, .int 0, .ref q0, .int 0, .ref q1, .ref q2, .ref q3, .null, .null, .null, .int 0, .int 0, .int 0, .int 0, .int 0, .null])), (q0, .inl (c0, 1480, .inl (fun _ => 0))), (q1, .inl (c0, 5, .inl (fun _ => 0))), (q2, .inl (c0, 5, .inl (fun _ => 0))), (q3, .inl (c0, 5, .inl (fun _ => 0)))] s _ _ := w
  refine lv_aload_n hx hb dM_init_34 rfl (lv_at hl 0 rfl) ?_
  refine lv_iconst (v := 5) hx hb dM_init_35 (by decide) ?_
  refine pw_newi S w arI (n := 5) (N := 5) (by decide) (by decide) (by decide) (by decide) (by decide) dM_init_36 (fun q4 c4 H w => ?_)
  have e9 : c0 = c4 := pw_cI w.1 w.1 (i := 0) (j := 1) rfl rfl
  subst e9
  have w : pw_S D [(c0, .int)] A [(m0, .inr (cM, [.int 0, .int 0, .int 0, .ref q0, .int 0, .ref q1, .ref q2, .ref q3, .null, .null, .null, .int 0, .int 0, .int 0, .int 0, .int 0, .null])), (q0, .inl (c0, 1480, .inl (fun _ => 0))), (q1, .inl (c0, 5, .inl (fun _ => 0))), (q2, .inl (c0, 5, .inl (fun _ => 0))), (q3, .inl (c0, 5, .inl (fun _ => 0))), (q4, .inl (c0, 5, .inl (fun _ => 0)))] s _ _ := ⟨w.1.sub (tys' := [(c0, .int)]) [0] rfl, w.2⟩
  refine pw_putF S w pm_FM 0 (fs := [.int 0, .int 0, .int 0, .ref q0, .int 0, .ref q1, .ref q2, .ref q3, .null, .null, .null, .int 0, .int 0, .int 0, .int 0, .int 0, .null]) rfl 8 (by decide) eM_22 rfl hnm rfl (v := .ref q4) rfl rfl (Nat.le_of_ble_eq_true rfl) dM_init_38 (fun H locs w => ?_)
  have w : pw_S D [(c0, .int)] A [(m0, .inr (cM, [.int 0, .int 0, .int 0, .ref q0, .int 0, .ref q1, .ref q2, .ref q3, .ref q4, .null, .null, .int 0, .int 0, .int 0, .int 0, .int 0, .null])), (q0, .inl (c0, 1480, .inl (fun _ => 0))), (q1, .inl (c0, 5, .inl (fun _ => 0))), (q2, .inl (c0, 5, .inl (fun _ => 0))), (q3, .inl (c0, 5, .inl (fun _ => 0))), (q4, .inl (c0, 5, .inl (fun _ => 0)))] s _ _ := w
  refine lv_aload_n hx hb dM_init_41 rfl (lv_at hl 0 rfl) ?_
  refine lv_iconst (v := 5) hx hb dM_init_42 (by decide) ?_
  refine pw_newi S w arI (n := 5) (N := 5) (by decide) (by decide) (by decide) (by decide) (by decide) dM_init_43 (fun q5 c5 H w => ?_)
  have e9 : c0 = c5 := pw_cI w.1 w.1 (i := 0) (j := 1) rfl rfl
  subst e9
  have w : pw_S D [(c0, .int)] A [(m0, .inr (cM, [.int 0, .int 0, .int 0, .ref q0, .int 0, .ref q1, .ref q2, .ref q3, .ref q4, .null, .null, .int 0, .int 0, .int 0, .int 0, .int 0, .null])), (q0, .inl (c0, 1480, .inl (fun _ => 0))), (q1, .inl (c0, 5, .inl (fun _ => 0))), (q2, .inl (c0, 5, .inl (fun _ => 0))), (q3, .inl (c0, 5, .inl (fun _ => 0))), (q4, .inl (c0, 5, .inl (fun _ => 0))), (q5, .inl (c0, 5, .inl (fun _ => 0)))] s _ _ := ⟨w.1.sub (tys' := [(c0, .int)]) [0] rfl, w.2⟩
  refine pw_putF S w pm_FM 0 (fs := [.int 0, .int 0, .int 0, .ref q0, .int 0, .ref q1, .ref q2, .ref q3, .ref q4, .null, .null, .int 0, .int 0, .int 0, .int 0, .int 0, .null]) rfl 9 (by decide) eM_25 rfl hnm rfl (v := .ref q5) rfl rfl (Nat.le_of_ble_eq_true rfl) dM_init_45 (fun H locs w => ?_)
  have w : pw_S D [(c0, .int)] A [(m0, .inr (cM, [.int 0, .int 0, .int 0, .ref q0, .int 0, .ref q1, .ref q2, .ref q3, .ref q4, .ref q5, .null, .int 0, .int 0, .int 0, .int 0, .int 0, .null])), (q0, .inl (c0, 1480, .inl (fun _ => 0))), (q1, .inl (c0, 5, .inl (fun _ => 0))), (q2, .inl (c0, 5, .inl (fun _ => 0))), (q3, .inl (c0, 5, .inl (fun _ => 0))), (q4, .inl (c0, 5, .inl (fun _ => 0))), (q5, .inl (c0, 5, .inl (fun _ => 0)))] s _ _ := w
  refine lv_aload_n hx hb dM_init_48 rfl (lv_at hl 0 rfl) ?_
  refine lv_sipush (v := 7400) hx hb dM_init_49 (by decide) ?_
  refine pw_newi S w arI (n := 7400) (N := 7400) (by decide) (by decide) (by decide) (by decide) (by decide) dM_init_52 (fun q6 c6 H w => ?_)
  have e9 : c0 = c6 := pw_cI w.1 w.1 (i := 0) (j := 1) rfl rfl
  subst e9
  have w : pw_S D [(c0, .int)] A [(m0, .inr (cM, [.int 0, .int 0, .int 0, .ref q0, .int 0, .ref q1, .ref q2, .ref q3, .ref q4, .ref q5, .null, .int 0, .int 0, .int 0, .int 0, .int 0, .null])), (q0, .inl (c0, 1480, .inl (fun _ => 0))), (q1, .inl (c0, 5, .inl (fun _ => 0))), (q2, .inl (c0, 5, .inl (fun _ => 0))), (q3, .inl (c0, 5, .inl (fun _ => 0))), (q4, .inl (c0, 5, .inl (fun _ => 0))), (q5, .inl (c0, 5, .inl (fun _ => 0))), (q6, .inl (c0, 7400, .inl (fun _ => 0)))] s _ _ := ⟨w.1.sub (tys' := [(c0, .int)]) [0] rfl, w.2⟩
  refine pw_putF S w pm_FM 0 (fs := [.int 0, .int 0, .int 0, .ref q0, .int 0, .ref q1, .ref q2, .ref q3, .ref q4, .ref q5, .null, .int 0, .int 0, .int 0, .int 0, .int 0, .null]) rfl 10 (by decide) eM_28 rfl hnm rfl (v := .ref q6) rfl rfl (Nat.le_of_ble_eq_true rfl) dM_init_54 (fun H locs w => ?_)
  have w : pw_S D [(c0, .int)] A [(m0, .inr (cM, [.int 0, .int 0, .int 0, .ref q0, .int 0, .ref q1, .ref q2, .ref q3, .ref q4, .ref q5, .ref q6, .int 0, .int 0, .int 0, .int 0, .int 0, .null])), (q0, .inl (c0, 1480, .inl (fun _ => 0))), (q1, .inl (c0, 5, .inl (fun _ => 0))), (q2, .inl (c0, 5, .inl (fun _ => 0))), (q3, .inl (c0, 5, .inl (fun _ => 0))), (q4, .inl (c0, 5, .inl (fun _ => 0))), (q5, .inl (c0, 5, .inl (fun _ => 0))), (q6, .inl (c0, 7400, .inl (fun _ => 0)))] s _ _ := w
  refine lv_aload_n hx hb dM_init_57 rfl (lv_at hl 0 rfl) ?_
  refine lv_sipush (v := 1480) hx hb dM_init_58 (by decide) ?_
  refine pw_newi S w arI (n := 1480) (N := 1480) (by decide) (by decide) (by decide) (by decide) (by decide) dM_init_61 (fun q7 c7 H w => ?_)
  have e9 : c0 = c7 := pw_cI w.1 w.1 (i := 0) (j := 1) rfl rfl
  subst e9
  have w : pw_S D [(c0, .int)] A [(m0, .inr (cM, [.int 0, .int 0, .int 0, .ref q0, .int 0, .ref q1, .ref q2, .ref q3, .ref q4, .ref q5, .ref q6, .int 0, .int 0, .int 0, .int 0, .int 0, .null])), (q0, .inl (c0, 1480, .inl (fun _ => 0))), (q1, .inl (c0, 5, .inl (fun _ => 0))), (q2, .inl (c0, 5, .inl (fun _ => 0))), (q3, .inl (c0, 5, .inl (fun _ => 0))), (q4, .inl (c0, 5, .inl (fun _ => 0))), (q5, .inl (c0, 5, .inl (fun _ => 0))), (q6, .inl (c0, 7400, .inl (fun _ => 0))), (q7, .inl (c0, 1480, .inl (fun _ => 0)))] s _ _ := ⟨w.1.sub (tys' := [(c0, .int)]) [0] rfl, w.2⟩
  refine pw_putF S w pm_FM 0 (fs := [.int 0, .int 0, .int 0, .ref q0, .int 0, .ref q1, .ref q2, .ref q3, .ref q4, .ref q5, .ref q6, .int 0, .int 0, .int 0, .int 0, .int 0, .null]) rfl 16 (by decide) eM_31 rfl hnm rfl (v := .ref q7) rfl rfl (Nat.le_of_ble_eq_true rfl) dM_init_63 (fun H locs w => ?_)
  have w : pw_S D [(c0, .int)] A [(m0, .inr (cM, [.int 0, .int 0, .int 0, .ref q0, .int 0, .ref q1, .ref q2, .ref q3, .ref q4, .ref q5, .ref q6, .int 0, .int 0, .int 0, .int 0, .int 0, .ref q7])), (q0, .inl (c0, 1480, .inl (fun _ => 0))), (q1, .inl (c0, 5, .inl (fun _ => 0))), (q2, .inl (c0, 5, .inl (fun _ => 0))), (q3, .inl (c0, 5, .inl (fun _ => 0))), (q4, .inl (c0, 5, .inl (fun _ => 0))), (q5, .inl (c0, 5, .inl (fun _ => 0))), (q6, .inl (c0, 7400, .inl (fun _ => 0))), (q7, .inl (c0, 1480, .inl (fun _ => 0)))] s _ _ := w
  exact pw_retv S hr hlk (fun i => [q0, q1, q2, q3, q4, q5, q6, q7].getD i 0, c0) w trivial (by decide) (by decide) dM_init_66
