/-! what the calls do to the relation -/
theorem pr_room {sg : Nat → Nat} {nb lw : Nat} {G : Nat → px_G} {B : Nat → Nat → Int32} {sc gl nu si wh pl : Nat → Int32} (h : pr_W sg nb lw G B sc gl nu si wh pl) :
    pr_W (px_mk sg nb).1 (px_mk sg nb).2 lw G B (pm_mk nb sc) (pm_mk nb gl) (pm_mk nb nu) (pm_mk nb si) (pm_mk nb wh) (pm_mk2 nb pl) ∧ (px_mk sg nb).2 = pm_mkn nb := by
  by_cases e : nb = 4
  · subst e
    exact ⟨pr_rot h (show 0 < 4 by omega), rfl⟩
  · unfold px_mk pm_mk pm_mk2 pm_mkn
    rw [if_neg e, if_neg e, if_neg e, if_neg e, if_neg e, if_neg e, if_neg e, if_neg e]
    exact ⟨h, rfl⟩
theorem pr_no {sc gl nu : Nat → Int32} {nb : Nat} {a b c : Int32} (hn : nb ≤ 4) (h : ∀ q, q < nb → ¬ pm_tl sc gl nu q a b c) : ∀ q, q < pm_mkn nb → ¬ pm_tl (pm_mk nb sc) (pm_mk nb gl) (pm_mk nb nu) q a b c := by
  intro q hq
  by_cases e : nb = 4
  · subst e
    have hq : q < 3 := hq
    have e1 : ∀ f : Nat → Int32, pm_mk 4 f q = f (q + 1) := fun f => if_pos ⟨Nat.zero_le q, hq⟩
    unfold pm_tl
    rw [e1, e1, e1]
    exact h (q + 1) (by omega)
  · unfold pm_mkn at hq
    rw [if_neg e] at hq
    unfold pm_mk
    rw [if_neg e, if_neg e, if_neg e]
    exact h q hq
theorem pr_new {sg : Nat → Nat} {nb lw z : Nat} {G : Nat → px_G} {B : Nat → Nat → Int32} {sc gl nu si wh pl : Nat → Int32} {a b c wl t : Int32} (h : pr_W sg nb lw G B sc gl nu si wh pl) (hn : nb ≤ 3) (hno : ∀ q, q < nb → ¬ pm_tl sc gl nu q a b c) (hz : wl = nI z) (hz1 : 1 ≤ z) (hz2 : z ≤ 1480) :
    pr_W sg (nb + 1) lw (va_up G (sg nb) (a, b, c, wl, wl, t)) (va_up B (sg nb) (px_fl (B (sg nb)) (-1) 1480)) (upd sc nb a) (upd gl nb b) (upd nu nb c) (upd si nb t) (upd wh nb wl) (pm_fl pl (1480 * nb) 1480) := by
  obtain ⟨h1, h2, h3, h4⟩ := h
  have hfl : ∀ i, i < 1480 → px_fl (B (sg nb)) (-1) 1480 i = -1 := fun i hi => if_pos hi
  refine ⟨by omega, h2, fun q hq => ?_, fun q r hq hr e1 e2 e3 => ?_⟩
  · by_cases e : q = nb
    · subst e
      rw [va_up_self, va_up_self, pk_us, pk_us, pk_us, pk_us, pk_us]
      refine ⟨z, ?_, hz, hz1, hz2, fun i hi => ?_, fun i hi => Or.inl (hfl i hi)⟩
      · rw [pa_c_all (fun i hi => hfl i (by omega)), ← hz]
      · rw [hfl i hi]
        exact if_pos (by omega)
    · have hne : ¬ sg q = sg nb := fun y => e (h2.2.2.1 q nb (by omega) (by omega) y)
      rw [va_up_ne _ _ hne, va_up_ne _ _ hne, pk_un e, pk_un e, pk_un e, pk_un e, pk_un e]
      exact pr_d_congr (h3 q (by omega)) (fun i hi => if_neg (by omega))
  · by_cases x : q = nb <;> by_cases y : r = nb
    · omega
    · subst x
      rw [pk_us, pk_un y] at e1 e2 e3
      exact absurd ⟨e1.symm, e2.symm, e3.symm⟩ (hno r (by omega))
    · subst y
      rw [pk_us, pk_un x] at e1 e2 e3
      exact absurd ⟨e1, e2, e3⟩ (hno q (by omega))
    · rw [pk_un x, pk_un y] at e1 e2 e3
      exact h4 q r (by omega) (by omega) e1 e2 e3
theorem pr_L_up {lw j : Nat} {aw : Int32} {G : Nat → px_G} {B : Nat → Nat → Int32} {sm ms mg mn mk : Int32} {md : Nat → Int32} {g : px_G} {b : Nat → Int32} (h : pr_L lw aw G B sm ms mg mn mk md) (hj : ¬ j = lw) : pr_L lw aw (va_up G j g) (va_up B j b) sm ms mg mn mk md := by
  refine ⟨h.1, fun ha => ?_⟩
  rw [va_up_ne _ _ (fun e => hj e.symm), va_up_ne _ _ (fun e => hj e.symm)]
  exact h.2 ha
/-- class and reference behind piece -/
def pr_P (X : px_R) (M : pm_R) : Prop :=
  X.2.1 = M.1 ∧ pr_W X.1 X.2.1 X.2.2.1 X.2.2.2.2.1 X.2.2.2.2.2 M.2.1 M.2.2.1 M.2.2.2.1 M.2.2.2.2.1 M.2.2.2.2.2.1 M.2.2.2.2.2.2.1 ∧
  pr_L X.2.2.1 X.2.2.2.1 X.2.2.2.2.1 X.2.2.2.2.2 M.2.2.2.2.2.2.2.1 M.2.2.2.2.2.2.2.2.1 M.2.2.2.2.2.2.2.2.2.1 M.2.2.2.2.2.2.2.2.2.2.1 M.2.2.2.2.2.2.2.2.2.2.2.1 M.2.2.2.2.2.2.2.2.2.2.2.2
theorem pr_tk {sg : Nat → Nat} {nb lw k fr nf z : Nat} {aw wl : Int32} {G : Nat → px_G} {B : Nat → Nat → Int32} {sc gl nu si wh pl fd me : Nat → Int32} {sm ms mg mn mk : Int32} {md : Nat → Int32} (h : pr_W sg nb lw G B sc gl nu si wh pl) (hL : pr_L lw aw G B sm ms mg mn mk md) (hF : pr_F fd nf me) (hk : k < nb) (hwl : wl = nI z) (hz : wh k = nI z) (hz2 : z ≤ 1480) (hfit : fr + nf ≤ z) :
    (px_tk fd nf fr wl k sg nb lw aw G B).1 = (pm_tk me nf fr k z nb sc gl nu si wh pl sm ms mg mn mk md).1 ∧ pr_P (px_tk fd nf fr wl k sg nb lw aw G B).2 (pm_tk me nf fr k z nb sc gl nu si wh pl sm ms mg mn mk md).2 := by
  obtain ⟨t1, t2, t3, t4⟩ := pr_take h hk hF hz hz2 hfit
  obtain ⟨z', e1, e2, -⟩ := h.2.2.1 k hk
  have hs : (G (sg k)).2.2.2.1 = wl := by rw [e1, hwl]; exact hz
  have hne : ¬ sg k = lw := h.2.1.2.2.2 k (by have := h.1; omega)
  have hle := pa_c_le (px_tB (B (sg k)) fd fr nf) z
  unfold px_tk pm_tk
  rw [if_pos hs, t2]
  by_cases hc : pa_c (px_tB (B (sg k)) fd fr nf) z = 0
  · rw [if_pos hc, if_pos (show px_tL (B (sg k)) fd fr (G (sg k)).2.2.2.2.1 nf ≤ 0 by rw [t1, hc]; exact nI_le (Nat.le_refl 0) (by decide))]
    obtain ⟨f1, f2⟩ := pr_fin (md := md) t4 hk hz hz2
    exact ⟨rfl, rfl, f1, f2⟩
  · rw [if_neg hc, if_neg (show ¬ px_tL (B (sg k)) fd fr (G (sg k)).2.2.2.2.1 nf ≤ 0 by rw [t1]; exact nI_nle (by omega) (by omega))]
    exact ⟨rfl, rfl, t4, pr_L_up hL hne⟩
theorem pr_piece {sg : Nat → Nat} {nb lw fr nf z tm : Nat} {aw a b d3 wl : Int32} {G : Nat → px_G} {B : Nat → Nat → Int32} {sc gl nu si wh pl fd me : Nat → Int32} {sm ms mg mn mk : Int32} {md : Nat → Int32} {x : Option Nat} (h : pr_W sg nb lw G B sc gl nu si wh pl) (hL : pr_L lw aw G B sm ms mg mn mk md) (hF : pr_F fd nf me) (h1 : px_fnd sg G nb a b d3 x) (h2 : pm_fnd sc gl nu nb a b d3 x) (hwl : wl = nI z) (hz1 : 1 ≤ z) (hz2 : z ≤ 1480) (hfit : fr + nf ≤ z) :
    (px_pc fd nf fr a b d3 wl sg nb lw aw tm G B x).1 = (pm_pc me nf fr z a b d3 wl tm nb sc gl nu si wh pl sm ms mg mn mk md x).1 ∧ pr_P (px_pc fd nf fr a b d3 wl sg nb lw aw tm G B x).2 (pm_pc me nf fr z a b d3 wl tm nb sc gl nu si wh pl sm ms mg mn mk md x).2 := by
  cases x with
  | some k =>
    have hk : k < nb := h1.1
    obtain ⟨z', e1, e2, -⟩ := h.2.2.1 k hk
    have hs : (G (sg k)).2.2.2.1 = wh k := by rw [e1]
    show (px_tk fd nf fr wl k sg nb lw aw G B).1 = (if wh k = wl then _ else _ : Int32 × pm_R).1 ∧ pr_P (px_tk fd nf fr wl k sg nb lw aw G B).2 (if wh k = wl then _ else _ : Int32 × pm_R).2
    by_cases e : wh k = wl
    · rw [if_pos e]
      exact pr_tk h hL hF hk hwl (e.trans hwl) hz2 hfit
    · rw [if_neg e]
      unfold px_tk
      rw [if_neg (fun q => e (hs.symm.trans q))]
      exact ⟨rfl, rfl, h, hL⟩
  | none =>
    obtain ⟨r1, r2⟩ := pr_room h
    have hno := pr_no h.1 h2
    have hn3 : pm_mkn nb ≤ 3 := pm_mkn_le h.1
    have hlt : (px_mk sg nb).2 < 4 := px_mk_le h.1
    have hne : ¬ (px_mk sg nb).1 (px_mk sg nb).2 = lw := r1.2.1.2.2.2 _ hlt
    have n1 := pr_new (t := nI tm) r1 (by omega) (by rw [r2]; exact hno) hwl hz1 hz2
    have hL1 := pr_L_up (g := (a, b, d3, wl, wl, nI tm)) (b := px_fl (B ((px_mk sg nb).1 (px_mk sg nb).2)) (-1) 1480) hL hne
    have hh := pr_tk (wl := wl) (z := z) n1 hL1 hF (Nat.lt_succ_self _) hwl (by rw [pk_us]; exact hwl) hz2 hfit
    rw [r2] at hh
    show (px_tk fd nf fr wl (px_mk sg nb).2 (px_mk sg nb).1 ((px_mk sg nb).2 + 1) lw aw _ _).1 = (pm_tk me nf fr (pm_mkn nb) z (pm_mkn nb + 1) _ _ _ _ _ _ sm ms mg mn mk md).1 ∧ pr_P (px_tk fd nf fr wl (px_mk sg nb).2 (px_mk sg nb).1 ((px_mk sg nb).2 + 1) lw aw _ _).2 (pm_tk me nf fr (pm_mkn nb) z (pm_mkn nb + 1) _ _ _ _ _ _ sm ms mg mn mk md).2
    rw [r2]
    exact hh
theorem pr_gv {tm lw : Nat} {G : Nat → px_G} {B : Nat → Nat → Int32} : ∀ (n m nb : Nat) (sg : Nat → Nat) (sc gl nu si wh pl : Nat → Int32), pr_W sg nb lw G B sc gl nu si wh pl → nb ≤ n → nb ≤ m →
    (px_gv tm G n sg nb).2 = (pm_gv tm m nb sc gl nu si wh pl).1 ∧ pr_W (px_gv tm G n sg nb).1 (px_gv tm G n sg nb).2 lw G B (pm_gv tm m nb sc gl nu si wh pl).2.1 (pm_gv tm m nb sc gl nu si wh pl).2.2.1 (pm_gv tm m nb sc gl nu si wh pl).2.2.2.1 (pm_gv tm m nb sc gl nu si wh pl).2.2.2.2.1 (pm_gv tm m nb sc gl nu si wh pl).2.2.2.2.2.1 (pm_gv tm m nb sc gl nu si wh pl).2.2.2.2.2.2 := by
  intro n
  induction n with
  | zero =>
    intro m nb sg sc gl nu si wh pl h hn hm
    have e : nb = 0 := by omega
    subst e
    cases m with
    | zero => exact ⟨rfl, h⟩
    | succ m =>
      have e2 : pm_gv tm (m + 1) 0 sc gl nu si wh pl = (0, sc, gl, nu, si, wh, pl) := if_neg (fun q => absurd q.1 (by omega))
      rw [e2]
      exact ⟨rfl, h⟩
  | succ n ih =>
    intro m nb sg sc gl nu si wh pl h hn hm
    cases m with
    | zero =>
      have e : nb = 0 := by omega
      subst e
      have e2 : px_gv tm G (n + 1) sg 0 = (sg, 0) := if_neg (fun q => absurd q.1 (by omega))
      rw [e2]
      exact ⟨rfl, h⟩
    | succ m =>
      by_cases hc : 0 < nb ∧ ¬ nI tm - si 0 < 300
      · obtain ⟨z', e1, -⟩ := h.2.2.1 0 hc.1
        have hs : (G (sg 0)).2.2.2.2.2 = si 0 := by rw [e1]
        have e2 : px_gv tm G (n + 1) sg nb = px_gv tm G n (px_rot sg 0 nb) (nb - 1) := if_pos (by rw [hs]; exact hc)
        have e3 : pm_gv tm (m + 1) nb sc gl nu si wh pl = pm_gv tm m (nb - 1) (pm_s1 sc 0 (nb - 1)) (pm_s1 gl 0 (nb - 1)) (pm_s1 nu 0 (nb - 1)) (pm_s1 si 0 (nb - 1)) (pm_s1 wh 0 (nb - 1)) (pm_s2 pl 0 (1480 * (nb - 1))) := if_pos hc
        rw [e2, e3]
        exact ih m (nb - 1) _ _ _ _ _ _ _ (pr_rot h hc.1) (by omega) (by omega)
      · have e2 : px_gv tm G (n + 1) sg nb = (sg, nb) := if_neg (fun q => hc ⟨q.1, by
          obtain ⟨z', e1, -⟩ := h.2.2.1 0 q.1
          have hs : (G (sg 0)).2.2.2.2.2 = si 0 := by rw [e1]
          rw [← hs]; exact q.2⟩)
        have e3 : pm_gv tm (m + 1) nb sc gl nu si wh pl = (nb, sc, gl, nu, si, wh, pl) := if_neg hc
        rw [e2, e3]
        exact ⟨rfl, h⟩
/-! bytes of a long -/
theorem pb_s1 : ∀ t, t < 8 → (((8 * nI t).toInt64.toUInt64 &&& Int64.toUInt64 63).toBitVec % 64).toNat = 8 * t := by decide +kernel
theorem pb_s2 : ∀ t, t < 8 → (((8 * nI t).toInt64 &&& 63).toBitVec.smod 64).toNat = 8 * t := by decide +kernel
theorem pb_32 : ∀ i, i < 32 → (255 : Int32).toBitVec.getLsbD i = decide (i < 8) := by decide +kernel
theorem pb_64 : ∀ i, i < 32 → (255 : Int64).toBitVec.getLsbD i = decide (i < 8) := by decide +kernel
theorem pb_eq (x : Int64) {t : Nat} (ht : t < 8) : px_by x (8 * nI t) = pm_by x (8 * nI t) := by
  apply Int32.toBitVec_inj.mp
  apply BitVec.eq_of_getLsbD_eq
  intro i hi
  have e1 : (px_by x (8 * nI t)).toBitVec.getLsbD i = (x.toBitVec.getLsbD (8 * t + i) && decide (i < 8)) := by
    unfold px_by
    rw [Int32.toBitVec_and, BitVec.getLsbD_and, pb_32 i hi, Int64.toBitVec_toInt32, BitVec.getLsbD_signExtend]
    have e : (x.toUInt64 >>> ((8 * nI t).toInt64.toUInt64 &&& Int64.toUInt64 63)).toInt64.toBitVec = x.toBitVec >>> (8 * t) := by
      show (x.toUInt64 >>> ((8 * nI t).toInt64.toUInt64 &&& Int64.toUInt64 63)).toBitVec = _
      rw [UInt64.toBitVec_shiftRight]
      show x.toBitVec >>> (((8 * nI t).toInt64.toUInt64 &&& Int64.toUInt64 63).toBitVec % 64).toNat = _
      rw [pb_s1 t ht]
    rw [e, BitVec.getLsbD_ushiftRight]
    simp [hi, show i < 64 by omega]
  have e2 : (pm_by x (8 * nI t)).toBitVec.getLsbD i = (x.toBitVec.getLsbD (8 * t + i) && decide (i < 8)) := by
    unfold pm_by
    rw [Int64.toBitVec_toInt32, BitVec.getLsbD_signExtend, Int64.toBitVec_and, BitVec.getLsbD_and, pb_64 i hi, Int64.toBitVec_shiftRight]
    have e : (x.toBitVec.sshiftRight (((8 * nI t).toInt64 &&& 63).toBitVec.smod 64).toNat).getLsbD i = if 8 * t + i < 64 then x.toBitVec.getLsbD (8 * t + i) else x.toBitVec.msb := by
      rw [pb_s2 t ht, BitVec.getLsbD_sshiftRight]
      simp [show i < 64 by omega]
    have e : (x.toBitVec.sshiftRight' (((8 * nI t).toInt64 &&& 63).toBitVec.smod 64)).getLsbD i = if 8 * t + i < 64 then x.toBitVec.getLsbD (8 * t + i) else x.toBitVec.msb := e
    rw [e]
    by_cases h8 : i < 8
    · simp [hi, h8, show i < 64 by omega, show 8 * t + i < 64 by omega]
    · simp [hi, h8, show i < 64 by omega]
  rw [e1, e2]
theorem pb_nn (x : Int64) (d : Int32) : ¬ px_by x d < 0 := by
  unfold px_by
  rw [pk_and _ 8 (by decide)]
  exact nI_pos (by omega)
theorem px_fd_at (fd : Nat → Int32) (nf : Nat) (x : Int64) (n : Int32) : ∀ (k i : Nat), px_fd fd nf x n k i = if nf ≤ i ∧ i < nf + k then px_by x (8 * (n - 1 - nI (i - nf))) else fd i
  | 0, i => by
    rw [if_neg (by omega)]
    rfl
  | k + 1, i => by
    have e0 : px_fd fd nf x n (k + 1) = upd (px_fd fd nf x n k) (nf + k) (px_by x (8 * (n - 1 - nI k))) := rfl
    rw [e0]
    by_cases hi : i = nf + k
    · subst hi
      rw [pk_us, if_pos (by omega), Nat.add_sub_cancel_left]
    · rw [pk_un hi, px_fd_at fd nf x n k]
      by_cases h2 : nf ≤ i ∧ i < nf + k
      · rw [if_pos h2, if_pos (by omega)]
      · rw [if_neg h2, if_neg (by omega)]
theorem pm_fd_at (fd : Nat → Int32) (nf : Nat) (x : Int64) (n : Nat) : ∀ (k i : Nat), pm_fd fd nf x n k i = if nf ≤ i ∧ i < nf + k then pm_by x (8 * nI (n - 1 - (i - nf))) else fd i
  | 0, i => by
    rw [if_neg (by omega)]
    rfl
  | k + 1, i => by
    have e0 : pm_fd fd nf x n (k + 1) = upd (pm_fd fd nf x n k) (nf + k) (pm_by x (8 * nI (n - 1 - k))) := rfl
    rw [e0]
    by_cases hi : i = nf + k
    · subst hi
      rw [pk_us, if_pos (by omega), Nat.add_sub_cancel_left]
    · rw [pk_un hi, pm_fd_at fd nf x n k]
      by_cases h2 : nf ≤ i ∧ i < nf + k
      · rw [if_pos h2, if_pos (by omega)]
      · rw [if_neg h2, if_neg (by omega)]
theorem pr_feed {fd me : Nat → Int32} {nf n : Nat} (x : Int64) (h : pr_F fd nf me) (hn1 : 1 ≤ n) (hn8 : n ≤ 8) (hfit : nf + n ≤ 1480) : pr_F (px_fd fd nf x (nI n) n) (nf + n) (pm_fd me nf x n n) := by
  refine ⟨hfit, fun i hi => ?_⟩
  rw [px_fd_at, pm_fd_at]
  by_cases hc : nf ≤ i ∧ i < nf + n
  · rw [if_pos hc, if_pos hc]
    have e : nI n - 1 - nI (i - nf) = nI (n - 1 - (i - nf)) := by rw [px_pred (by omega), pk_sub (by omega)]
    rw [e]
    exact ⟨pb_eq x (by omega), pb_nn x _⟩
  · rw [if_neg hc, if_neg hc]
    exact h.2 i (by omega)
