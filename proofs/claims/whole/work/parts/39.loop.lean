set_option maxHeartbeats 4000000 in
set_option maxRecDepth 100000 in
/-- THE LAW'S LOOP: at its head, k calls done -/
theorem pl_loop {p : Program} {l : Launch} {e : Env} {s : State} {m : MethodId} {below : List Frame} {meth : Method} {c : Code} {b L : Nat} {xs : Nat → Int32} {D : va_G} {a0 af ab : Nat} {o ar : Nat → Nat} {cI cO : ClassId} {m0 : Nat} {ad : Nat → Nat} {qo : Nat} {cL : ClassId} (hl9 : l.stackTraces = false) (S : pw_Fx p m c cL_law 7 s #[Value.ref b] RL) (hr : meth.sig.returnType = ret) (hlocks : meth.locks = false) (hX : va_X b L xs s s.heap) (hbl : b < s.heap.size) (hL : L ≤ 3072) :
    ∀ (n k : Nat), 6 * k ≤ L → L < 6 * k + 6 * n → ∀ (H : Heap) (locs : List Loc), pl_St D s a0 af ab o ar cI cO m0 ad qo cL H locs → ∀ (ls : Array Slot), lv_has ls 7 [(0, .ref b), (1, .ref a0), (2, .ref m0), (3, .ref qo), (4, .int (nI (6 * k)))] → W p l e room_1 s m #[Value.ref b] below meth c H locs (23 + k) (19329 + 6 * k) (lw_Z below #[Value.ref b] s) (F0 m 23 ls []) := by
  obtain ⟨hx, hb, hml, hown, hts⟩ := id S
  intro n
  induction n with
  | zero => intros; omega
  | succ n ih =>
    intro k hk hn H locs st ls hl
    have st0 := st
    obtain ⟨fd, nf, sg, nb, lw, aw, tm, G, B, cd, me, sc, gl, nu, si, wh, pl, sm, ms, mg, mn, mk, md, f, htm, hF, hW, hLs, w⟩ := st0
    refine lv_iload hx hb dL_law_23 (lv_at hl 4 rfl) ?_
    refine lv_aload_n hx hb dL_law_25 rfl (lv_at hl 0 rfl) ?_
    refine va_slen hx hb hX hbl (Nat.not_le.mpr hbl) w.2.2.2.1 dL_law_26 ?_
    refine lv_bipush (v := 6) hx hb dL_law_27 (by decide) ?_
    refine lv_isub hx hb dL_law_29 ?_
    have h6 : (nI L - 6).toInt = (L : Int) - 6 := pk_sub_toInt (a := L) (b := 6) (by omega) (by decide)
    have hi9 : (nI (6 * k)).toInt = ((6 * k : Nat) : Int) := nI_toInt (by omega)
    refine lv_icmp_gt (tgt := 589) hx hb dL_law_30 (by decide) (fun h1 => ?_) (fun h1 => ?_)
    · refine lv_iconst (v := 1) hx hb dL_law_589 (by decide) ?_
      refine va_forget (fun q hq => w.2.2.2.1.2.2 q hq) ?_
      refine W.widen (k := 601024) (n := 7293034) (by omega) (by omega) ?_
      exact lw_ret hx hb hr hlocks dL_law_590
    · have hle : 6 * k + 6 ≤ L := by have h9 : (nI (6 * k)).toInt ≤ (nI L - 6).toInt := pw_nlt h1; rw [h6, hi9] at h9; omega
      have kk : ∀ (H1 : Heap) (locs1 : List Loc) (ls1 : Array Slot), pl_St D s a0 af ab o ar cI cO m0 ad qo cL H1 locs1 → lv_has ls1 7 [(0, .ref b), (1, .ref a0), (2, .ref m0), (3, .ref qo), (4, .int (nI (6 * k)))] → W p l e room_1 s m #[Value.ref b] below meth c H1 locs1 (23 + k + 1) (19329 + 6 * k + 6) (lw_Z below #[Value.ref b] s) (F0 m 583 ls1 []) := by
        intro H1 locs1 ls1 st1 hl1
        refine lv_iinc (v := nI (6 * (k + 1))) (lv' := [(4, .int (nI (6 * (k + 1)))), (0, .ref b), (1, .ref a0), (2, .ref m0), (3, .ref qo)]) hx hb dL_law_583 hl1 (k := 4) rfl (nI_add (6 * k) 6) (by decide) rfl (fun ls2 hl2 => ?_)
        refine lv_goto (tgt := 23) hx hb dL_law_586 (by decide) ?_
        refine W.widen (k := 23 + (k + 1)) (n := 19329 + 6 * (k + 1)) (by omega) (by omega) ?_
        exact ih (k + 1) (by omega) (by omega) H1 locs1 st1 ls2 (lv_sub hl2 [1, 2, 3, 4, 0] rfl)
      have hc : 23 + k + 1 ≤ 601024 := by omega
      have hs : 19329 + 6 * k + 6 ≤ 7293034 := by omega
      refine lv_aload_n hx hb dL_law_33 rfl (lv_at hl 0 rfl) ?_
      refine lv_iload hx hb dL_law_34 (lv_at hl 4 rfl) ?_
      refine pw_sld S w hX hbl (j := 6 * k) (by omega) hL dL_law_36 ?_
      refine lv_bipush (v := 7) hx hb dL_law_37 (by decide) ?_
      refine lv_iand hx hb dL_law_39 ?_
      obtain ⟨j9, hj9, ej9⟩ := pk_andE (xs (6 * k)) (m := 7) 3 (by decide)
      refine pw_top ej9 ?_
      have hj9 : j9 < 8 := hj9
      rcases (show j9 = 0 ∨ j9 = 1 ∨ j9 = 2 ∨ j9 = 3 ∨ j9 = 4 ∨ j9 = 5 ∨ j9 = 6 ∨ j9 = 7 by omega) with rfl | rfl | rfl | rfl | rfl | rfl | rfl | rfl
      · refine lv_tableIn (tgt := 88) hx hb dL_law_40 (by decide) (by decide) rfl (by decide) ?_
        exact pl_k_feed hl9 S hX hbl hL hle hc hs st hl kk
      · refine lv_tableIn (tgt := 188) hx hb dL_law_40 (by decide) (by decide) rfl (by decide) ?_
        exact pl_k_piece hl9 S hX hbl hL hle hc hs st hl kk
      · refine lv_tableIn (tgt := 292) hx hb dL_law_40 (by decide) (by decide) rfl (by decide) ?_
        exact pl_k_pass hl9 S hX hbl hL hle hc hs st hl kk
      · refine lv_tableIn (tgt := 348) hx hb dL_law_40 (by decide) (by decide) rfl (by decide) ?_
        exact pl_k_about hl9 S hX hbl hL hle hc hs st hl kk
      · refine lv_tableIn (tgt := 404) hx hb dL_law_40 (by decide) (by decide) rfl (by decide) ?_
        exact pl_k_byteAt hl9 S hX hbl hL hle hc hs st hl kk
      · refine lv_tableIn (tgt := 460) hx hb dL_law_40 (by decide) (by decide) rfl (by decide) ?_
        exact pl_k_missing hl9 S hX hbl hL hle hc hs st hl kk
      · refine lv_tableIn (tgt := 509) hx hb dL_law_40 (by decide) (by decide) rfl (by decide) ?_
        exact pl_k_has hl9 S hX hbl hL hle hc hs st hl kk
      · refine lv_tableIn (tgt := 570) hx hb dL_law_40 (by decide) (by decide) rfl (by decide) ?_
        exact pl_k_waiting hl9 S hX hbl hL hle hc hs st hl kk
