set_option maxHeartbeats 4000000 in
set_option maxRecDepth 100000 in
/-- PieceBench() -/
theorem px_c_init (l : Launch) (D : va_G) (a0 sz : Nat) : pw_Mv l yX1_init cX1_init 2 ({ frames := 2, cells := 12, slots := 8919, locals := 120 }) D [] [.ref a0] [(a0, .inr (cP, [.null, .int 0, .null, .int 0, .null, .int 0, .int 0]))] sz (σ := px_H) (fun _ => True) (fun h => px_N a0 h) (fun h => px_T h.2.2.2.2.1 h.2.2.2.2.2) 12 8919 := by
  refine pw_openV (by decide) (Nat.le_of_ble_eq_true rfl) ?_
  intro p e s m below meth c ls S hr hlk hnm hl hsz w
  obtain ⟨hx, hb, hml, hown, hts⟩ := id S
  have hl : lv_has ls 2 [(0, .ref a0)] := hl
  generalize va_A [(a0, .inr (cP, [.null, .int 0, .null, .int 0, .null, .int 0, .int 0]))] sz = A at w ⊢
  refine lv_aload_n hx hb dX1_init_0 rfl (lv_at hl 0 rfl) ?_
  refine pw_oinit S eP_1 iO kO hl.1 (by decide) (by decide) dX1_init_1 ?_
  refine lv_aload_n hx hb dX1_init_4 rfl (lv_at hl 0 rfl) ?_
  refine lv_sipush (v := 1480) hx hb dX1_init_5 (by decide) ?_
  refine pw_newi S w arI (n := 1480) (N := 1480) (by decide) (by decide) (by decide) (by decide) (by decide) dX1_init_8 (fun af cI H w => ?_)
  have w : pw_S D [(cI, .int)] A [(a0, .inr (cP, [.null, .int 0, .null, .int 0, .null, .int 0, .int 0])), (af, .inl (cI, 1480, .inl (fun _ => 0)))] s _ _ := w
  refine pw_putF S w px_FP 0 (fs := [.null, .int 0, .null, .int 0, .null, .int 0, .int 0]) rfl 0 (by decide) eP_9 rfl hnm rfl (v := .ref af) rfl rfl (Nat.le_of_ble_eq_true rfl) dX1_init_10 (fun H locs w => ?_)
  have w : pw_S D [(cI, .int)] A [(a0, .inr (cP, [.ref af, .int 0, .null, .int 0, .null, .int 0, .int 0])), (af, .inl (cI, 1480, .inl (fun _ => 0)))] s _ _ := w
  refine lv_aload_n hx hb dX1_init_13 rfl (lv_at hl 0 rfl) ?_
  refine lv_iconst (v := 4) hx hb dX1_init_14 (by decide) ?_
  refine pw_newr S w eP_13 (w.2.2.2.2.2.ao aoD) (n := 4) (N := 4) (by decide) (by decide) (by decide) (by decide) (by decide) dX1_init_15 (fun ab cO H w => ?_)
  have w : pw_S D (px_T cI cO) A [(a0, .inr (cP, [.ref af, .int 0, .null, .int 0, .null, .int 0, .int 0])), (af, .inl (cI, 1480, .inl (fun _ => 0))), (ab, .inl (cO, 4, .inr (.inr (.inr (.inr (fun _ => none))))))] s _ _ := w
  refine pw_putF S w px_FP 0 (fs := [.ref af, .int 0, .null, .int 0, .null, .int 0, .int 0]) rfl 2 (by decide) eP_15 rfl hnm rfl (v := .ref ab) rfl rfl (Nat.le_of_ble_eq_true rfl) dX1_init_18 (fun H locs w => ?_)
  have w : pw_S D (px_T cI cO) A [(a0, .inr (cP, [.ref af, .int 0, .ref ab, .int 0, .null, .int 0, .int 0])), (af, .inl (cI, 1480, .inl (fun _ => 0))), (ab, .inl (cO, 4, .inr (.inr (.inr (.inr (fun _ => none))))))] s _ _ := w
  refine lv_iconst (v := 0) hx hb dX1_init_21 (by decide) ?_
  refine lv_istore_n (lv' := [(1, .int 0), (0, .ref a0)]) hx hb dX1_init_22 rfl hl (by decide) rfl (fun ls hl => ?_)
  refine lv_iload_n hx hb dX1_init_23 rfl (lv_at hl 0 rfl) ?_
  refine lv_iconst (v := 4) hx hb dX1_init_24 (by decide) ?_
  refine lv_icmp_ge (tgt := 47) hx hb dX1_init_25 (by decide) (fun h9 => absurd h9 (by decide)) (fun _ => ?_)
  refine lv_aload_n hx hb dX1_init_28 rfl (lv_at hl 1 rfl) ?_
  refine pw_get S w px_FP 0 rfl 2 (by decide) eP_15 (v := .ref ab) rfl dX1_init_29 ?_
  refine lv_iload_n hx hb dX1_init_32 rfl (lv_at hl 0 rfl) ?_
  refine pw_new S w px_FD eP_13 nwD iniD (fs := [.null, .int 0, .int 0, .int 0, .int 0, .int 0, .int 0]) (fun j hj => by rcases (show j = 0 ∨ j = 1 ∨ j = 2 ∨ j = 3 ∨ j = 4 ∨ j = 5 ∨ j = 6 by omega) with rfl | rfl | rfl | rfl | rfl | rfl | rfl <;> rfl) (by decide) (by decide) dX1_init_33 (fun q0 H w => ?_)
  refine lv_dup hx hb dX1_init_36 rfl ?_
  have w : pw_S D (px_T cI cO) A ([(a0, .inr (cP, [.ref af, .int 0, .ref ab, .int 0, .null, .int 0, .int 0])), (af, .inl (cI, 1480, .inl (fun _ => 0))), (ab, .inl (cO, 4, .inr (.inr (.inr (.inr (fun _ => none))))))] ++ ([(q0, .inr (cD, [.null, .int 0, .int 0, .int 0, .int 0, .int 0, .int 0]))] ++ [])) s _ _ := w
  refine pw_gov w (va_runIN (As := []) (rest := [.ref q0, .int 0, .ref ab]) S (px_c_dinit l D q0 _) ⟨pw_cn (n := 0) S w.2.2.2.2.2 eP_19n iniD kD_init rfl rfl (by decide +kernel) ⟨by decide, by decide⟩, rfl, S.2.2.2.2 _ iD_init⟩ ⟨pw_blind, pw_pre w (w.1.sub (tys' := []) [] rfl)⟩ rfl rfl hl.1 rfl (lv_room (Nat.le_of_ble_eq_true rfl)) dX1_init_37 ⟨by decide, by decide⟩) (fun u H locs _ hK w => ?_)
  obtain ⟨b0, cA⟩ := u
  have e9 : cI = cA := pw_cI w.1 hK (i := 0) (j := 0) rfl rfl
  subst e9
  have w : pw_S D (px_T cI cO) A [(a0, .inr (cP, [.ref af, .int 0, .ref ab, .int 0, .null, .int 0, .int 0])), (af, .inl (cI, 1480, .inl (fun _ => 0))), (ab, .inl (cO, 4, .inr (.inr (.inr (.inr (fun _ => none)))))), (q0, .inr (cD, px_fs b0 (0, 0, 0, 0, 0, 0))), (b0, .inl (cI, 1480, .inl (fun _ => 0)))] s _ _ := w
  refine pw_aast S w 2 1 3 cD (r := cDr) rfl rfl rfl rfl (j := 0) (by decide) (by decide) dX1_init_40 (fun H locs w => ?_)
  have w : pw_S D (px_T cI cO) A [(a0, .inr (cP, [.ref af, .int 0, .ref ab, .int 0, .null, .int 0, .int 0])), (af, .inl (cI, 1480, .inl (fun _ => 0))), (ab, .inl (cO, 4, .inr (.inr (.inr (.inr (va_up (fun _ => none) 0 (some q0))))))), (q0, .inr (cD, px_fs b0 (0, 0, 0, 0, 0, 0))), (b0, .inl (cI, 1480, .inl (fun _ => 0)))] s _ _ := w
  refine lv_iinc (v := 1) (lv' := [(1, .int 1), (0, .ref a0)]) hx hb dX1_init_41 hl (k := 0) rfl (by decide) (by decide) rfl (fun ls hl => ?_)
  refine lv_goto (tgt := 23) hx hb dX1_init_44 (by decide) ?_
  refine lv_iload_n hx hb dX1_init_23 rfl (lv_at hl 0 rfl) ?_
  refine lv_iconst (v := 4) hx hb dX1_init_24 (by decide) ?_
  refine lv_icmp_ge (tgt := 47) hx hb dX1_init_25 (by decide) (fun h9 => absurd h9 (by decide)) (fun _ => ?_)
  refine lv_aload_n hx hb dX1_init_28 rfl (lv_at hl 1 rfl) ?_
  refine pw_get S w px_FP 0 rfl 2 (by decide) eP_15 (v := .ref ab) rfl dX1_init_29 ?_
  refine lv_iload_n hx hb dX1_init_32 rfl (lv_at hl 0 rfl) ?_
  refine pw_new S w px_FD eP_13 nwD iniD (fs := [.null, .int 0, .int 0, .int 0, .int 0, .int 0, .int 0]) (fun j hj => by rcases (show j = 0 ∨ j = 1 ∨ j = 2 ∨ j = 3 ∨ j = 4 ∨ j = 5 ∨ j = 6 by omega) with rfl | rfl | rfl | rfl | rfl | rfl | rfl <;> rfl) (by decide) (by decide) dX1_init_33 (fun q1 H w => ?_)
  refine lv_dup hx hb dX1_init_36 rfl ?_
  have w : pw_S D (px_T cI cO) A ([(a0, .inr (cP, [.ref af, .int 0, .ref ab, .int 0, .null, .int 0, .int 0])), (af, .inl (cI, 1480, .inl (fun _ => 0))), (ab, .inl (cO, 4, .inr (.inr (.inr (.inr (va_up (fun _ => none) 0 (some q0))))))), (q0, .inr (cD, px_fs b0 (0, 0, 0, 0, 0, 0))), (b0, .inl (cI, 1480, .inl (fun _ => 0)))] ++ ([(q1, .inr (cD, [.null, .int 0, .int 0, .int 0, .int 0, .int 0, .int 0]))] ++ [])) s _ _ := w
  refine pw_gov w (va_runIN (As := []) (rest := [.ref q1, .int 1, .ref ab]) S (px_c_dinit l D q1 _) ⟨pw_cn (n := 0) S w.2.2.2.2.2 eP_19n iniD kD_init rfl rfl (by decide +kernel) ⟨by decide, by decide⟩, rfl, S.2.2.2.2 _ iD_init⟩ ⟨pw_blind, pw_pre w (w.1.sub (tys' := []) [] rfl)⟩ rfl rfl hl.1 rfl (lv_room (Nat.le_of_ble_eq_true rfl)) dX1_init_37 ⟨by decide, by decide⟩) (fun u H locs _ hK w => ?_)
  obtain ⟨b1, cA⟩ := u
  have e9 : cI = cA := pw_cI w.1 hK (i := 0) (j := 0) rfl rfl
  subst e9
  have w : pw_S D (px_T cI cO) A [(a0, .inr (cP, [.ref af, .int 0, .ref ab, .int 0, .null, .int 0, .int 0])), (af, .inl (cI, 1480, .inl (fun _ => 0))), (ab, .inl (cO, 4, .inr (.inr (.inr (.inr (va_up (fun _ => none) 0 (some q0))))))), (q0, .inr (cD, px_fs b0 (0, 0, 0, 0, 0, 0))), (b0, .inl (cI, 1480, .inl (fun _ => 0))), (q1, .inr (cD, px_fs b1 (0, 0, 0, 0, 0, 0))), (b1, .inl (cI, 1480, .inl (fun _ => 0)))] s _ _ := w
  refine pw_aast S w 2 1 5 cD (r := cDr) rfl rfl rfl rfl (j := 1) (by decide) (by decide) dX1_init_40 (fun H locs w => ?_)
  have w : pw_S D (px_T cI cO) A [(a0, .inr (cP, [.ref af, .int 0, .ref ab, .int 0, .null, .int 0, .int 0])), (af, .inl (cI, 1480, .inl (fun _ => 0))), (ab, .inl (cO, 4, .inr (.inr (.inr (.inr (va_up (va_up (fun _ => none) 0 (some q0)) 1 (some q1))))))), (q0, .inr (cD, px_fs b0 (0, 0, 0, 0, 0, 0))), (b0, .inl (cI, 1480, .inl (fun _ => 0))), (q1, .inr (cD, px_fs b1 (0, 0, 0, 0, 0, 0))), (b1, .inl (cI, 1480, .inl (fun _ => 0)))] s _ _ := w
  refine lv_iinc (v := 2) (lv' := [(1, .int 2), (0, .ref a0)]) hx hb dX1_init_41 hl (k := 0) rfl (by decide) (by decide) rfl (fun ls hl => ?_)
  refine lv_goto (tgt := 23) hx hb dX1_init_44 (by decide) ?_
  refine lv_iload_n hx hb dX1_init_23 rfl (lv_at hl 0 rfl) ?_
  refine lv_iconst (v := 4) hx hb dX1_init_24 (by decide) ?_
  refine lv_icmp_ge (tgt := 47) hx hb dX1_init_25 (by decide) (fun h9 => absurd h9 (by decide)) (fun _ => ?_)
  refine lv_aload_n hx hb dX1_init_28 rfl (lv_at hl 1 rfl) ?_
  refine pw_get S w px_FP 0 rfl 2 (by decide) eP_15 (v := .ref ab) rfl dX1_init_29 ?_
  refine lv_iload_n hx hb dX1_init_32 rfl (lv_at hl 0 rfl) ?_
  refine pw_new S w px_FD eP_13 nwD iniD (fs := [.null, .int 0, .int 0, .int 0, .int 0, .int 0, .int 0]) (fun j hj => by rcases (show j = 0 ∨ j = 1 ∨ j = 2 ∨ j = 3 ∨ j = 4 ∨ j = 5 ∨ j = 6 by omega) with rfl | rfl | rfl | rfl | rfl | rfl | rfl <;> rfl) (by decide) (by decide) dX1_init_33 (fun q2 H w => ?_)
  refine lv_dup hx hb dX1_init_36 rfl ?_
  have w : pw_S D (px_T cI cO) A ([(a0, .inr (cP, [.ref af, .int 0, .ref ab, .int 0, .null, .int 0, .int 0])), (af, .inl (cI, 1480, .inl (fun _ => 0))), (ab, .inl (cO, 4, .inr (.inr (.inr (.inr (va_up (va_up (fun _ => none) 0 (some q0)) 1 (some q1))))))), (q0, .inr (cD, px_fs b0 (0, 0, 0, 0, 0, 0))), (b0, .inl (cI, 1480, .inl (fun _ => 0))), (q1, .inr (cD, px_fs b1 (0, 0, 0, 0, 0, 0))), (b1, .inl (cI, 1480, .inl (fun _ => 0)))] ++ ([(q2, .inr (cD, [.null, .int 0, .int 0, .int 0, .int 0, .int 0, .int 0]))] ++ [])) s _ _ := w
  refine pw_gov w (va_runIN (As := []) (rest := [.ref q2, .int 2, .ref ab]) S (px_c_dinit l D q2 _) ⟨pw_cn (n := 0) S w.2.2.2.2.2 eP_19n iniD kD_init rfl rfl (by decide +kernel) ⟨by decide, by decide⟩, rfl, S.2.2.2.2 _ iD_init⟩ ⟨pw_blind, pw_pre w (w.1.sub (tys' := []) [] rfl)⟩ rfl rfl hl.1 rfl (lv_room (Nat.le_of_ble_eq_true rfl)) dX1_init_37 ⟨by decide, by decide⟩) (fun u H locs _ hK w => ?_)
  obtain ⟨b2, cA⟩ := u
  have e9 : cI = cA := pw_cI w.1 hK (i := 0) (j := 0) rfl rfl
  subst e9
  have w : pw_S D (px_T cI cO) A [(a0, .inr (cP, [.ref af, .int 0, .ref ab, .int 0, .null, .int 0, .int 0])), (af, .inl (cI, 1480, .inl (fun _ => 0))), (ab, .inl (cO, 4, .inr (.inr (.inr (.inr (va_up (va_up (fun _ => none) 0 (some q0)) 1 (some q1))))))), (q0, .inr (cD, px_fs b0 (0, 0, 0, 0, 0, 0))), (b0, .inl (cI, 1480, .inl (fun _ => 0))), (q1, .inr (cD, px_fs b1 (0, 0, 0, 0, 0, 0))), (b1, .inl (cI, 1480, .inl (fun _ => 0))), (q2, .inr (cD, px_fs b2 (0, 0, 0, 0, 0, 0))), (b2, .inl (cI, 1480, .inl (fun _ => 0)))] s _ _ := w
  refine pw_aast S w 2 1 7 cD (r := cDr) rfl rfl rfl rfl (j := 2) (by decide) (by decide) dX1_init_40 (fun H locs w => ?_)
  have w : pw_S D (px_T cI cO) A [(a0, .inr (cP, [.ref af, .int 0, .ref ab, .int 0, .null, .int 0, .int 0])), (af, .inl (cI, 1480, .inl (fun _ => 0))), (ab, .inl (cO, 4, .inr (.inr (.inr (.inr (va_up (va_up (va_up (fun _ => none) 0 (some q0)) 1 (some q1)) 2 (some q2))))))), (q0, .inr (cD, px_fs b0 (0, 0, 0, 0, 0, 0))), (b0, .inl (cI, 1480, .inl (fun _ => 0))), (q1, .inr (cD, px_fs b1 (0, 0, 0, 0, 0, 0))), (b1, .inl (cI, 1480, .inl (fun _ => 0))), (q2, .inr (cD, px_fs b2 (0, 0, 0, 0, 0, 0))), (b2, .inl (cI, 1480, .inl (fun _ => 0)))] s _ _ := w
  refine lv_iinc (v := 3) (lv' := [(1, .int 3), (0, .ref a0)]) hx hb dX1_init_41 hl (k := 0) rfl (by decide) (by decide) rfl (fun ls hl => ?_)
  refine lv_goto (tgt := 23) hx hb dX1_init_44 (by decide) ?_
  refine lv_iload_n hx hb dX1_init_23 rfl (lv_at hl 0 rfl) ?_
  refine lv_iconst (v := 4) hx hb dX1_init_24 (by decide) ?_
  refine lv_icmp_ge (tgt := 47) hx hb dX1_init_25 (by decide) (fun h9 => absurd h9 (by decide)) (fun _ => ?_)
  refine lv_aload_n hx hb dX1_init_28 rfl (lv_at hl 1 rfl) ?_
  refine pw_get S w px_FP 0 rfl 2 (by decide) eP_15 (v := .ref ab) rfl dX1_init_29 ?_
  refine lv_iload_n hx hb dX1_init_32 rfl (lv_at hl 0 rfl) ?_
  refine pw_new S w px_FD eP_13 nwD iniD (fs := [.null, .int 0, .int 0, .int 0, .int 0, .int 0, .int 0]) (fun j hj => by rcases (show j = 0 ∨ j = 1 ∨ j = 2 ∨ j = 3 ∨ j = 4 ∨ j = 5 ∨ j = 6 by omega) with rfl | rfl | rfl | rfl | rfl | rfl | rfl <;> rfl) (by decide) (by decide) dX1_init_33 (fun q3 H w => ?_)
  refine lv_dup hx hb dX1_init_36 rfl ?_
  have w : pw_S D (px_T cI cO) A ([(a0, .inr (cP, [.ref af, .int 0, .ref ab, .int 0, .null, .int 0, .int 0])), (af, .inl (cI, 1480, .inl (fun _ => 0))), (ab, .inl (cO, 4, .inr (.inr (.inr (.inr (va_up (va_up (va_up (fun _ => none) 0 (some q0)) 1 (some q1)) 2 (some q2))))))), (q0, .inr (cD, px_fs b0 (0, 0, 0, 0, 0, 0))), (b0, .inl (cI, 1480, .inl (fun _ => 0))), (q1, .inr (cD, px_fs b1 (0, 0, 0, 0, 0, 0))), (b1, .inl (cI, 1480, .inl (fun _ => 0))), (q2, .inr (cD, px_fs b2 (0, 0, 0, 0, 0, 0))), (b2, .inl (cI, 1480, .inl (fun _ => 0)))] ++ ([(q3, .inr (cD, [.null, .int 0, .int 0, .int 0, .int 0, .int 0, .int 0]))] ++ [])) s _ _ := w
  refine pw_gov w (va_runIN (As := []) (rest := [.ref q3, .int 3, .ref ab]) S (px_c_dinit l D q3 _) ⟨pw_cn (n := 0) S w.2.2.2.2.2 eP_19n iniD kD_init rfl rfl (by decide +kernel) ⟨by decide, by decide⟩, rfl, S.2.2.2.2 _ iD_init⟩ ⟨pw_blind, pw_pre w (w.1.sub (tys' := []) [] rfl)⟩ rfl rfl hl.1 rfl (lv_room (Nat.le_of_ble_eq_true rfl)) dX1_init_37 ⟨by decide, by decide⟩) (fun u H locs _ hK w => ?_)
  obtain ⟨b3, cA⟩ := u
  have e9 : cI = cA := pw_cI w.1 hK (i := 0) (j := 0) rfl rfl
  subst e9
  have w : pw_S D (px_T cI cO) A [(a0, .inr (cP, [.ref af, .int 0, .ref ab, .int 0, .null, .int 0, .int 0])), (af, .inl (cI, 1480, .inl (fun _ => 0))), (ab, .inl (cO, 4, .inr (.inr (.inr (.inr (va_up (va_up (va_up (fun _ => none) 0 (some q0)) 1 (some q1)) 2 (some q2))))))), (q0, .inr (cD, px_fs b0 (0, 0, 0, 0, 0, 0))), (b0, .inl (cI, 1480, .inl (fun _ => 0))), (q1, .inr (cD, px_fs b1 (0, 0, 0, 0, 0, 0))), (b1, .inl (cI, 1480, .inl (fun _ => 0))), (q2, .inr (cD, px_fs b2 (0, 0, 0, 0, 0, 0))), (b2, .inl (cI, 1480, .inl (fun _ => 0))), (q3, .inr (cD, px_fs b3 (0, 0, 0, 0, 0, 0))), (b3, .inl (cI, 1480, .inl (fun _ => 0)))] s _ _ := w
  refine pw_aast S w 2 1 9 cD (r := cDr) rfl rfl rfl rfl (j := 3) (by decide) (by decide) dX1_init_40 (fun H locs w => ?_)
  have w : pw_S D (px_T cI cO) A [(a0, .inr (cP, [.ref af, .int 0, .ref ab, .int 0, .null, .int 0, .int 0])), (af, .inl (cI, 1480, .inl (fun _ => 0))), (ab, .inl (cO, 4, .inr (.inr (.inr (.inr (va_up (va_up (va_up (va_up (fun _ => none) 0 (some q0)) 1 (some q1)) 2 (some q2)) 3 (some q3))))))), (q0, .inr (cD, px_fs b0 (0, 0, 0, 0, 0, 0))), (b0, .inl (cI, 1480, .inl (fun _ => 0))), (q1, .inr (cD, px_fs b1 (0, 0, 0, 0, 0, 0))), (b1, .inl (cI, 1480, .inl (fun _ => 0))), (q2, .inr (cD, px_fs b2 (0, 0, 0, 0, 0, 0))), (b2, .inl (cI, 1480, .inl (fun _ => 0))), (q3, .inr (cD, px_fs b3 (0, 0, 0, 0, 0, 0))), (b3, .inl (cI, 1480, .inl (fun _ => 0)))] s _ _ := w
  refine lv_iinc (v := 4) (lv' := [(1, .int 4), (0, .ref a0)]) hx hb dX1_init_41 hl (k := 0) rfl (by decide) (by decide) rfl (fun ls hl => ?_)
  refine lv_goto (tgt := 23) hx hb dX1_init_44 (by decide) ?_
  refine lv_iload_n hx hb dX1_init_23 rfl (lv_at hl 0 rfl) ?_
  refine lv_iconst (v := 4) hx hb dX1_init_24 (by decide) ?_
  refine lv_icmp_ge (tgt := 47) hx hb dX1_init_25 (by decide) (fun _ => ?_) (fun h9 => absurd (by decide) h9)
  refine lv_aload_n hx hb dX1_init_47 rfl (lv_at hl 1 rfl) ?_
  refine pw_new S w px_FD eP_13 nwD iniD (fs := [.null, .int 0, .int 0, .int 0, .int 0, .int 0, .int 0]) (fun j hj => by rcases (show j = 0 ∨ j = 1 ∨ j = 2 ∨ j = 3 ∨ j = 4 ∨ j = 5 ∨ j = 6 by omega) with rfl | rfl | rfl | rfl | rfl | rfl | rfl <;> rfl) (by decide) (by decide) dX1_init_48 (fun q4 H w => ?_)
  refine lv_dup hx hb dX1_init_51 rfl ?_
  have w : pw_S D (px_T cI cO) A ([(a0, .inr (cP, [.ref af, .int 0, .ref ab, .int 0, .null, .int 0, .int 0])), (af, .inl (cI, 1480, .inl (fun _ => 0))), (ab, .inl (cO, 4, .inr (.inr (.inr (.inr (va_up (va_up (va_up (va_up (fun _ => none) 0 (some q0)) 1 (some q1)) 2 (some q2)) 3 (some q3))))))), (q0, .inr (cD, px_fs b0 (0, 0, 0, 0, 0, 0))), (b0, .inl (cI, 1480, .inl (fun _ => 0))), (q1, .inr (cD, px_fs b1 (0, 0, 0, 0, 0, 0))), (b1, .inl (cI, 1480, .inl (fun _ => 0))), (q2, .inr (cD, px_fs b2 (0, 0, 0, 0, 0, 0))), (b2, .inl (cI, 1480, .inl (fun _ => 0))), (q3, .inr (cD, px_fs b3 (0, 0, 0, 0, 0, 0))), (b3, .inl (cI, 1480, .inl (fun _ => 0)))] ++ ([(q4, .inr (cD, [.null, .int 0, .int 0, .int 0, .int 0, .int 0, .int 0]))] ++ [])) s _ _ := w
  refine pw_gov w (va_runIN (As := []) (rest := [.ref q4, .ref a0]) S (px_c_dinit l D q4 _) ⟨pw_cn (n := 0) S w.2.2.2.2.2 eP_19n iniD kD_init rfl rfl (by decide +kernel) ⟨by decide, by decide⟩, rfl, S.2.2.2.2 _ iD_init⟩ ⟨pw_blind, pw_pre w (w.1.sub (tys' := []) [] rfl)⟩ rfl rfl hl.1 rfl (lv_room (Nat.le_of_ble_eq_true rfl)) dX1_init_52 ⟨by decide, by decide⟩) (fun u H locs _ hK w => ?_)
  obtain ⟨b4, cA⟩ := u
  have e9 : cI = cA := pw_cI w.1 hK (i := 0) (j := 0) rfl rfl
  subst e9
  have w : pw_S D (px_T cI cO) A [(a0, .inr (cP, [.ref af, .int 0, .ref ab, .int 0, .null, .int 0, .int 0])), (af, .inl (cI, 1480, .inl (fun _ => 0))), (ab, .inl (cO, 4, .inr (.inr (.inr (.inr (va_up (va_up (va_up (va_up (fun _ => none) 0 (some q0)) 1 (some q1)) 2 (some q2)) 3 (some q3))))))), (q0, .inr (cD, px_fs b0 (0, 0, 0, 0, 0, 0))), (b0, .inl (cI, 1480, .inl (fun _ => 0))), (q1, .inr (cD, px_fs b1 (0, 0, 0, 0, 0, 0))), (b1, .inl (cI, 1480, .inl (fun _ => 0))), (q2, .inr (cD, px_fs b2 (0, 0, 0, 0, 0, 0))), (b2, .inl (cI, 1480, .inl (fun _ => 0))), (q3, .inr (cD, px_fs b3 (0, 0, 0, 0, 0, 0))), (b3, .inl (cI, 1480, .inl (fun _ => 0))), (q4, .inr (cD, px_fs b4 (0, 0, 0, 0, 0, 0))), (b4, .inl (cI, 1480, .inl (fun _ => 0)))] s _ _ := w
  refine pw_put S w px_FP 0 (fs := [.ref af, .int 0, .ref ab, .int 0, .null, .int 0, .int 0]) rfl 4 (by decide) eP_20 rfl (v := .ref q4) rfl rfl (Nat.le_of_ble_eq_true rfl) dX1_init_55 (fun H locs w => ?_)
  have w : pw_S D (px_T cI cO) A [(a0, .inr (cP, [.ref af, .int 0, .ref ab, .int 0, .ref q4, .int 0, .int 0])), (af, .inl (cI, 1480, .inl (fun _ => 0))), (ab, .inl (cO, 4, .inr (.inr (.inr (.inr (va_up (va_up (va_up (va_up (fun _ => none) 0 (some q0)) 1 (some q1)) 2 (some q2)) 3 (some q3))))))), (q0, .inr (cD, px_fs b0 (0, 0, 0, 0, 0, 0))), (b0, .inl (cI, 1480, .inl (fun _ => 0))), (q1, .inr (cD, px_fs b1 (0, 0, 0, 0, 0, 0))), (b1, .inl (cI, 1480, .inl (fun _ => 0))), (q2, .inr (cD, px_fs b2 (0, 0, 0, 0, 0, 0))), (b2, .inl (cI, 1480, .inl (fun _ => 0))), (q3, .inr (cD, px_fs b3 (0, 0, 0, 0, 0, 0))), (b3, .inl (cI, 1480, .inl (fun _ => 0))), (q4, .inr (cD, px_fs b4 (0, 0, 0, 0, 0, 0))), (b4, .inl (cI, 1480, .inl (fun _ => 0)))] s _ _ := w
  exact pw_retv S hr hlk (af, ab, fun i => [q0, q1, q2, q3, q4].getD i 0, fun i => [b0, b1, b2, b3, b4].getD i 0, cI, cO) (w.to (by rw [px_bf4 q0 q1 q2 q3 q4]; rfl)) trivial (by decide) (by decide) dX1_init_58
