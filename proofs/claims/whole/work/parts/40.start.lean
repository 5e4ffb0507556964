set_option maxHeartbeats 4000000 in
set_option maxRecDepth 100000 in
/-- THE LAW, from its entry -/
theorem whole_start {p : Program} {e : Env} {s : State} {m : MethodId} {below : List Frame} {meth : Method} {c : Code} (l : Launch) (hl9 : l.stackTraces = false) {b L : Nat} {xs : Nat → Int32} (hL : L ≤ 3072) (C0 : lw_At p s m meth c b L xs) : W p l e room_1 s m #[Value.ref b] below meth c s.heap [] 0 0 (lw_Z below #[Value.ref b] s) (entryFrame m ([Value.ref b] : List Value).toArray 7) := by
  obtain ⟨hx, hb, hr, hml, hown0, hts0, hX, hbl, hlocks, hgv⟩ := id C0
  have S : pw_Fx p m c cL_law 7 s #[Value.ref b] RL := ⟨hx, hb, hml, hown0, fun w h => hts0 w (List.mem_filter.mp h).1⟩
  obtain ⟨-, -, -, hown, hts⟩ := id S
  obtain ⟨c0, iS0, hKn0⟩ := u_known (C := RD) (T := TD) (N := 7) (n := 7) hts px_FD.2.1 (hts _ nwD)
  obtain ⟨c1, iS1, hKn1⟩ := u_known (C := RP) (T := TP) (N := 7) (n := 7) hts px_FP.2.1 (hts _ nwP)
  obtain ⟨c2, iS2, hKn2⟩ := u_known (C := RM) (T := TM) (N := 17) (n := 17) hts pm_FM.2.1 (hts _ nwM)
  obtain ⟨D, hKc⟩ : ∃ D : va_G, ∀ (k : Nat) (q : vw_C), vwCl[k]? = some q → u_Kn s q.1 q.2.1 q.2.2 (D.1 k) (D.2 k) := by
    refine ⟨(fun k => if k = 0 then c0 else if k = 1 then c1 else c2, fun k => if k = 0 then iS0 else if k = 1 then iS1 else iS2), ?_⟩
    intro k q hq
    match k, hq with
    | 0, hq => cases hq; exact hKn0
    | 1, hq => cases hq; exact hKn1
    | 2, hq => cases hq; exact hKn2
    | k + 3, hq => simp [vwCl] at hq
  have hZ : pw_Z (fun q => s.heap.size ≤ q) s s.heap := ⟨⟨s, #[Value.ref b], State.WarmedH.refl s, hts0, hgv⟩, vx_Zqof (hts0 (.laysStatic Bundle.tN "UNASSIGNED_STACK" Bundle.steD) (by decide +kernel)) (hts0 (.initialized Bundle.tN) (by decide +kernel)) (flat_of_before _ hgv (.isRef (.static Bundle.tN "UNASSIGNED_STACK" Bundle.steD)) (by decide +kernel)) (fun a h => Nat.not_le.mpr h), vx_Zqof (hts0 (.laysStatic Bundle.tN "SUPPRESSED_SENTINEL" Bundle.listD) (by decide +kernel)) (hts0 (.initialized Bundle.tN) (by decide +kernel)) (flat_of_before _ hgv (.isRef (.static Bundle.tN "SUPPRESSED_SENTINEL" Bundle.listD)) (by decide +kernel)) (fun a h => Nat.not_le.mpr h)⟩
  have w : pw_S D [] (fun q => s.heap.size ≤ q) [] s s.heap [] := ⟨⟨hKc, fun k q h => by simp at h⟩, fun k q h => by simp at h, ⟨fun i j p q h => by simp at h, fun k q h => by simp at h⟩, va_S.rf, fun _ h => h, hZ⟩
  have hl := lv_entry ([.ref b]) (n := 7) (Nat.le_of_ble_eq_true rfl)
  rw [lg_entry_eq]
  generalize (lg_sl ([.ref b]) ++ List.replicate (7 - (lg_sl ([.ref b])).length) Slot.unset).toArray = ls at hl ⊢
  have hl : lv_has ls 7 [(0, .ref b)] := hl
  refine pw_new S w px_FP eL_8 nwP iniP (fs := [.null, .int 0, .null, .int 0, .null, .int 0, .int 0]) (fun j hj => by rcases (show j = 0 ∨ j = 1 ∨ j = 2 ∨ j = 3 ∨ j = 4 ∨ j = 5 ∨ j = 6 by omega) with rfl | rfl | rfl | rfl | rfl | rfl | rfl <;> rfl) (by decide) (by decide) dL_law_0 (fun a0 H w => ?_)
  refine lv_dup hx hb dL_law_3 rfl ?_
  have w : pw_S D [] (fun q => s.heap.size ≤ q) ([] ++ ([(a0, .inr (cP, [.null, .int 0, .null, .int 0, .null, .int 0, .int 0]))] ++ [])) s _ _ := w
  refine pw_gov w (va_runI (As := []) (rest := [.ref a0]) S (px_c_init l D a0 _) (pw_ci (n := 0) S eL_33 iP_init iniP kP_init rfl rfl rfl (by decide +kernel) ⟨by decide, by decide⟩) ⟨pw_blind, pw_pre w w.1⟩ rfl rfl hl.1 rfl (lv_room (Nat.le_of_ble_eq_true rfl)) dL_law_4 ⟨by decide, by decide⟩) (fun u H locs _ hK1 w => ?_)
  obtain ⟨af, ab, o, ar, cI, cO⟩ := u
  have w := w.one
  have w : pw_S D (px_T cI cO) (fun q => s.heap.size ≤ q) (px_N a0 (af, ab, o, ar, cI, cO)) s _ _ := ⟨hK1, w.2⟩
  generalize hXe : px_N a0 (af, ab, o, ar, cI, cO) = XW at w
  refine lv_astore_n (lv' := [(1, .ref a0), (0, .ref b)]) hx hb dL_law_7 rfl hl (by decide) rfl (fun ls hl => ?_)
  refine pw_new S w pm_FM eL_34 nwM iniM (fs := [.int 0, .int 0, .int 0, .null, .int 0, .null, .null, .null, .null, .null, .null, .int 0, .int 0, .int 0, .int 0, .int 0, .null]) (fun j hj => by rcases (show j = 0 ∨ j = 1 ∨ j = 2 ∨ j = 3 ∨ j = 4 ∨ j = 5 ∨ j = 6 ∨ j = 7 ∨ j = 8 ∨ j = 9 ∨ j = 10 ∨ j = 11 ∨ j = 12 ∨ j = 13 ∨ j = 14 ∨ j = 15 ∨ j = 16 by omega) with rfl | rfl | rfl | rfl | rfl | rfl | rfl | rfl | rfl | rfl | rfl | rfl | rfl | rfl | rfl | rfl | rfl <;> rfl) (by decide) (by decide) dL_law_8 (fun m0 H w => ?_)
  refine lv_dup hx hb dL_law_11 rfl ?_
  have w : pw_S D (px_T cI cO) (fun q => s.heap.size ≤ q) (XW ++ ([(m0, .inr (cM, [.int 0, .int 0, .int 0, .null, .int 0, .null, .null, .null, .null, .null, .null, .int 0, .int 0, .int 0, .int 0, .int 0, .null]))] ++ [])) s _ _ := w
  refine pw_gov w (va_runI (As := []) (rest := [.ref m0]) S (pm_c_init l D m0 _) (pw_ci (n := 0) S eL_36 iM_init iniM kM_init rfl rfl rfl (by decide +kernel) ⟨by decide, by decide⟩) ⟨pw_blind, pw_pre w (w.1.sub (tys' := []) [] rfl)⟩ rfl rfl hl.1 rfl (lv_room (Nat.le_of_ble_eq_true rfl)) dL_law_12 ⟨by decide, by decide⟩) (fun u H locs _ hK2 w => ?_)
  obtain ⟨ad, c9⟩ := u
  have e9 : cI = c9 := pw_cI w.1 hK2 (i := 0) (j := 0) rfl rfl
  subst e9
  have w : pw_S D (px_T cI cO) (fun q => s.heap.size ≤ q) (XW ++ (pm_W m0 ad cI 0 0 0 (fun _ => 0) 0 (fun _ => 0) (fun _ => 0) (fun _ => 0) (fun _ => 0) (fun _ => 0) (fun _ => 0) 0 0 0 0 0 (fun _ => 0) ++ [])) s _ _ := w
  refine lv_astore_n (lv' := [(2, .ref m0), (1, .ref a0), (0, .ref b)]) hx hb dL_law_15 rfl hl (by decide) rfl (fun ls hl => ?_)
  refine lv_iconst (v := 1) hx hb dL_law_16 (by decide) ?_
  refine pw_newl S w arL (n := 1) (N := 1) (by decide) (by decide) (by decide) (by decide) (by decide) dL_law_17 (fun qo cL H w => ?_)
  refine lv_astore_n (lv' := [(3, .ref qo), (2, .ref m0), (1, .ref a0), (0, .ref b)]) hx hb dL_law_19 rfl hl (by decide) rfl (fun ls hl => ?_)
  refine lv_iconst (v := 0) hx hb dL_law_20 (by decide) ?_
  refine lv_istore (lv' := [(4, .int 0), (3, .ref qo), (2, .ref m0), (1, .ref a0), (0, .ref b)]) hx hb dL_law_21 hl (by decide) rfl (fun ls hl => ?_)
  subst hXe
  have w : pw_S D (px_T cI cO ++ [(cL, .long)]) (fun q => s.heap.size ≤ q) (pm_W m0 ad cI 0 0 0 (fun _ => 0) 0 (fun _ => 0) (fun _ => 0) (fun _ => 0) (fun _ => 0) (fun _ => 0) (fun _ => 0) 0 0 0 0 0 (fun _ => 0) ++ (px_N a0 (af, ab, o, ar, cI, cO) ++ [(qo, .inl (cL, 1, .inr (.inl (fun _ => 0))))])) s _ _ := pw_perm (by
    rw [List.append_nil, List.append_assoc]
    exact List.perm_append_comm_assoc _ _ _) w
  refine W.widen (k := 23 + 0) (n := 19329 + 6 * 0) (by decide) (by decide) ?_
  refine pl_loop (D := D) (a0 := a0) (af := af) (ab := ab) (o := o) (ar := ar) (cI := cI) (cO := cO) (m0 := m0) (ad := ad) (qo := qo) (cL := cL) hl9 S hr hlocks hX hbl hL (L + 1) 0 (by omega) (by omega) _ _ ?_ _ (lv_sub hl [4, 3, 2, 1, 0] rfl)
  exact ⟨fun _ => 0, 0, fun q => q, 0, 4, 0, 0, fun _ => (0, 0, 0, 0, 0, 0), fun _ _ => 0, 0, fun _ => 0, fun _ => 0, fun _ => 0, fun _ => 0, fun _ => 0, fun _ => 0, fun _ => 0, 0, 0, 0, 0, 0, fun _ => 0, fun _ => 0, Nat.zero_le _, ⟨Nat.zero_le _, fun i hi => absurd hi (Nat.not_lt_zero i)⟩, ⟨Nat.zero_le _, ⟨fun q hq => Nat.lt_succ_of_lt hq, by decide, fun q r _ _ e9 => e9, fun q hq e9 => by have e9 : q = 4 := e9; omega⟩, fun q hq => absurd hq (Nat.not_lt_zero q), fun q r hq => absurd hq (Nat.not_lt_zero q)⟩, ⟨rfl, fun h9 => absurd rfl h9⟩, w⟩
