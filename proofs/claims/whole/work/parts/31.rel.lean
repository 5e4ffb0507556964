/-! how class and reference stand to each other -/
/-- one datagram that waits: the class's numbers g and bytes b beside the reference's -/
def pr_d (g : px_G) (b : Nat → Int32) (s go n w si : Int32) (p : Nat → Int32) : Prop :=
  ∃ z : Nat, g = (s, go, n, w, nI (pa_c b z), si) ∧ w = nI z ∧ 1 ≤ z ∧ z ≤ 1480 ∧ (∀ i, i < 1480 → p i = b i) ∧ ∀ i, i < 1480 → b i = -1 ∨ ¬ b i < 0
/-- those that wait -/
def pr_W (sg : Nat → Nat) (nb lw : Nat) (G : Nat → px_G) (B : Nat → Nat → Int32) (sc gl nu si wh pl : Nat → Int32) : Prop :=
  nb ≤ 4 ∧ px_inj sg lw ∧ (∀ q, q < nb → pr_d (G (sg q)) (B (sg q)) (sc q) (gl q) (nu q) (wh q) (si q) (fun i => pl (1480 * q + i))) ∧ ∀ q r, q < nb → r < nb → sc q = sc r → gl q = gl r → nu q = nu r → q = r
/-- the one that was whole last -/
def pr_L (lw : Nat) (aw : Int32) (G : Nat → px_G) (B : Nat → Nat → Int32) (sm ms mg mn mk : Int32) (md : Nat → Int32) : Prop :=
  aw = sm ∧ (¬ aw = 0 → ∃ z : Nat, (G lw).1 = ms ∧ (G lw).2.1 = mg ∧ (G lw).2.2.1 = mn ∧ (G lw).2.2.2.1 = nI z ∧ mk = nI z ∧ z ≤ 1480 ∧ ∀ i, i < z → B lw i = md i)
/-- what is fed -/
def pr_F (fd : Nat → Int32) (nf : Nat) (me : Nat → Int32) : Prop := nf ≤ 1480 ∧ ∀ i, i < nf → fd i = me i ∧ ¬ fd i < 0
theorem pr_neg {x : Int32} (h : x = -1) : x < 0 := by rw [h]; decide
theorem pr_pi {f : Nat → Int32} {k nb q : Nat} (hq : q + 1 < nb) : pm_s1 f k (nb - 1) q = f (px_pi k nb q) := by
  unfold pm_s1 px_pi
  rw [if_neg (show ¬ q + 1 = nb by omega)]
  by_cases h : k ≤ q
  · rw [if_pos ⟨h, by omega⟩, if_pos ⟨h, hq⟩]
  · rw [if_neg (fun z => h z.1), if_neg (fun z => h z.1)]
theorem pr_pl {f : Nat → Int32} {k nb q i : Nat} (hq : q + 1 < nb) (hi : i < 1480) : pm_s2 f (1480 * k) (1480 * (nb - 1)) (1480 * q + i) = f (1480 * px_pi k nb q + i) := by
  unfold pm_s2 px_pi
  rw [if_neg (show ¬ q + 1 = nb by omega)]
  by_cases h : k ≤ q
  · rw [if_pos (by omega), if_pos ⟨h, hq⟩]
    congr 1
    omega
  · rw [if_neg (by omega), if_neg (fun z => h z.1)]
theorem pr_d_congr {g : px_G} {b : Nat → Int32} {s go n w si : Int32} {p p' : Nat → Int32} (h : pr_d g b s go n w si p) (e : ∀ i, i < 1480 → p' i = p i) : pr_d g b s go n w si p' := by
  obtain ⟨z, h1, h2, h3, h4, h5, h6⟩ := h
  exact ⟨z, h1, h2, h3, h4, fun i hi => (e i hi).trans (h5 i hi), h6⟩
theorem px_pi_ltn {k nb q : Nat} (hk : k < nb) (hq : q + 1 < nb) : px_pi k nb q < nb := by
  unfold px_pi
  split
  · omega
  · split <;> omega
/-- one is forgotten -/
theorem pr_rot {sg : Nat → Nat} {nb lw k : Nat} {G : Nat → px_G} {B : Nat → Nat → Int32} {sc gl nu si wh pl : Nat → Int32} (h : pr_W sg nb lw G B sc gl nu si wh pl) (hk : k < nb) :
    pr_W (px_rot sg k nb) (nb - 1) lw G B (pm_s1 sc k (nb - 1)) (pm_s1 gl k (nb - 1)) (pm_s1 nu k (nb - 1)) (pm_s1 si k (nb - 1)) (pm_s1 wh k (nb - 1)) (pm_s2 pl (1480 * k) (1480 * (nb - 1))) := by
  obtain ⟨h1, h2, h3, h4⟩ := h
  refine ⟨by omega, px_inj_rot h2 hk h1, fun q hq => ?_, fun q r hq hr e1 e2 e3 => ?_⟩
  · rw [px_rot_pi hk, pr_pi (by omega), pr_pi (by omega), pr_pi (by omega), pr_pi (by omega), pr_pi (by omega)]
    exact pr_d_congr (h3 _ (px_pi_ltn hk (by omega))) (fun i hi => pr_pl (by omega) hi)
  · rw [pr_pi (by omega), pr_pi (by omega)] at e1 e2 e3
    exact px_pi_inj hk (h4 _ _ (px_pi_ltn hk (by omega)) (px_pi_ltn hk (by omega)) e1 e2 e3)
/-- the places that the two find are the same -/
theorem pr_tl {sg : Nat → Nat} {nb lw q : Nat} {G : Nat → px_G} {B : Nat → Nat → Int32} {sc gl nu si wh pl : Nat → Int32} {a b c : Int32} (h : pr_W sg nb lw G B sc gl nu si wh pl) (hq : q < nb) : px_tl (G (sg q)) a b c ↔ pm_tl sc gl nu q a b c := by
  obtain ⟨z, e, -⟩ := h.2.2.1 q hq
  rw [e]
  exact Iff.rfl
theorem pr_fnd {sg : Nat → Nat} {nb lw : Nat} {G : Nat → px_G} {B : Nat → Nat → Int32} {sc gl nu si wh pl : Nat → Int32} {a b c : Int32} {x y : Option Nat} (h : pr_W sg nb lw G B sc gl nu si wh pl) (h1 : px_fnd sg G nb a b c x) (h2 : pm_fnd sc gl nu nb a b c y) : x = y := by
  cases x with
  | none =>
    cases y with
    | none => rfl
    | some j => exact absurd ((pr_tl h h2.1).mpr h2.2.1) (h1 j h2.1)
  | some k =>
    cases y with
    | none => exact absurd ((pr_tl h h1.1).mp h1.2.1) (h2 k h1.1)
    | some j =>
      have t1 := (pr_tl h h1.1).mp h1.2.1
      have t2 := h2.2.1
      rw [h.2.2.2 k j h1.1 h2.1 (t1.1.trans t2.1.symm) (t1.2.1.trans t2.2.1.symm) (t1.2.2.trans t2.2.2.symm)]
/-- one datagram changes -/
theorem pr_up {sg : Nat → Nat} {nb lw k : Nat} {G : Nat → px_G} {B : Nat → Nat → Int32} {sc gl nu si wh pl pl' : Nat → Int32} {g : px_G} {b : Nat → Int32} (h : pr_W sg nb lw G B sc gl nu si wh pl) (hk : k < nb)
    (hd : pr_d g b (sc k) (gl k) (nu k) (wh k) (si k) (fun i => pl' (1480 * k + i))) (ho : ∀ q i, q < nb → ¬ q = k → i < 1480 → pl' (1480 * q + i) = pl (1480 * q + i)) : pr_W sg nb lw (va_up G (sg k) g) (va_up B (sg k) b) sc gl nu si wh pl' := by
  obtain ⟨h1, h2, h3, h4⟩ := h
  refine ⟨h1, h2, fun q hq => ?_, h4⟩
  by_cases e : q = k
  · subst e
    rw [va_up_self, va_up_self]
    exact hd
  · have hne : ¬ sg q = sg k := fun z => e (h2.2.2.1 q k (by omega) (by omega) z)
    rw [va_up_ne _ _ hne, va_up_ne _ _ hne]
    exact pr_d_congr (h3 q hq) (fun i hi => ho q i hq e hi)
theorem pm_tB_at (pl fd : Nat → Int32) (lo : Nat) : ∀ (k i : Nat), pm_tB pl fd lo k i = if lo ≤ i ∧ i < lo + k ∧ pl i < 0 then fd (i - lo) else pl i
  | 0, i => by
    rw [if_neg (by omega)]
    rfl
  | k + 1, i => by
    have e0 : pm_tB pl fd lo (k + 1) = upd (pm_tB pl fd lo k) (lo + k) (if pm_tB pl fd lo k (lo + k) < 0 then fd k else pm_tB pl fd lo k (lo + k)) := rfl
    have e : pm_tB pl fd lo k (lo + k) = pl (lo + k) := by rw [pm_tB_at pl fd lo k, if_neg (by omega)]
    rw [e0, e]
    by_cases hi : i = lo + k
    · subst hi
      rw [pk_us]
      by_cases h : pl (lo + k) < 0
      · rw [if_pos h, if_pos ⟨by omega, by omega, h⟩, Nat.add_sub_cancel_left]
      · rw [if_neg h, if_neg (fun z => h z.2.2)]
    · rw [pk_un hi, pm_tB_at pl fd lo k]
      by_cases h2 : lo ≤ i ∧ i < lo + k ∧ pl i < 0
      · rw [if_pos h2, if_pos ⟨h2.1, by omega, h2.2.2⟩]
      · rw [if_neg h2, if_neg (fun z => h2 ⟨z.1, by omega, z.2.2⟩)]
theorem pr_c {f b : Nat → Int32} : ∀ {n : Nat}, (∀ i, i < n → f i = b i) → (∀ i, i < n → b i = -1 ∨ ¬ b i < 0) → pm_c f n = pa_c b n
  | 0, _, _ => rfl
  | n + 1, h1, h2 => by
    unfold pm_c pa_c
    rw [pr_c (n := n) (fun i hi => h1 i (by omega)) (fun i hi => h2 i (by omega)), h1 n (by omega)]
    rcases h2 n (by omega) with e | e
    · rw [if_pos e, if_pos (pr_neg e)]
    · rw [if_neg e, if_neg (fun z => e (pr_neg z))]
/-- a piece's bytes come -/
theorem pr_take {sg : Nat → Nat} {nb lw k fr nf z : Nat} {G : Nat → px_G} {B : Nat → Nat → Int32} {sc gl nu si wh pl fd me : Nat → Int32} (h : pr_W sg nb lw G B sc gl nu si wh pl) (hk : k < nb) (hf : pr_F fd nf me) (hz : wh k = nI z) (hz2 : z ≤ 1480) (hfit : fr + nf ≤ z) :
    px_tL (B (sg k)) fd fr (G (sg k)).2.2.2.2.1 nf = nI (pa_c (px_tB (B (sg k)) fd fr nf) z) ∧
    pm_c (fun i => pm_tB pl me (1480 * k + fr) nf (1480 * k + i)) z = pa_c (px_tB (B (sg k)) fd fr nf) z ∧
    (∀ i, i < 1480 → pm_tB pl me (1480 * k + fr) nf (1480 * k + i) = px_tB (B (sg k)) fd fr nf i) ∧
    pr_W sg nb lw (va_up G (sg k) ((G (sg k)).1, (G (sg k)).2.1, (G (sg k)).2.2.1, (G (sg k)).2.2.2.1, px_tL (B (sg k)) fd fr (G (sg k)).2.2.2.2.1 nf, (G (sg k)).2.2.2.2.2)) (va_up B (sg k) (px_tB (B (sg k)) fd fr nf)) sc gl nu si wh (pm_tB pl me (1480 * k + fr) nf) := by
  obtain ⟨z', e1, e2, e3, e4, e5, e6⟩ := h.2.2.1 k hk
  have ez : z' = z := (nI_eq (by omega) (by omega)).mp (e2.symm.trans hz)
  subst ez
  have hL : px_tL (B (sg k)) fd fr (G (sg k)).2.2.2.2.1 nf = nI (pa_c (px_tB (B (sg k)) fd fr nf) z') := by
    rw [e1]
    exact pa_tL hfit (fun i hi q => (hf.2 i hi).2 (pr_neg q))
  have hp : ∀ i, i < 1480 → pm_tB pl me (1480 * k + fr) nf (1480 * k + i) = px_tB (B (sg k)) fd fr nf i := by
    intro i hi
    rw [pm_tB_at, pa_tB]
    have e := e5 i hi
    have e : pl (1480 * k + i) = B (sg k) i := e
    rw [e]
    by_cases hc : fr ≤ i ∧ i < fr + nf ∧ B (sg k) i = -1
    · rw [if_pos ⟨by omega, by omega, pr_neg hc.2.2⟩, if_pos hc, show 1480 * k + i - (1480 * k + fr) = i - fr by omega]
      exact (hf.2 _ (by omega)).1.symm
    · rw [if_neg hc, if_neg (fun q => hc ⟨by omega, by omega, by
        rcases e6 i hi with z9 | z9
        · exact z9
        · exact absurd q.2.2 z9⟩)]
  have hb : ∀ i, i < 1480 → px_tB (B (sg k)) fd fr nf i = -1 ∨ ¬ px_tB (B (sg k)) fd fr nf i < 0 := by
    intro i hi
    rw [pa_tB]
    by_cases hc : fr ≤ i ∧ i < fr + nf ∧ B (sg k) i = -1
    · rw [if_pos hc]
      exact Or.inr (hf.2 _ (by omega)).2
    · rw [if_neg hc]
      exact e6 i hi
  refine ⟨hL, pr_c (fun i hi => hp i (by omega)) (fun i hi => hb i (by omega)), hp, pr_up h hk ⟨z', ?_, e2, e3, e4, hp, hb⟩ (fun q i hq hne hi => ?_)⟩
  · rw [hL, e1]
  · rw [pm_tB_at, if_neg]
    intro z9
    rcases Nat.lt_or_ge q k with y | y
    · omega
    · have : k + 1 ≤ q := by omega
      omega
/-- it is whole -/
theorem pr_fin {sg : Nat → Nat} {nb lw k z : Nat} {G : Nat → px_G} {B : Nat → Nat → Int32} {sc gl nu si wh pl md : Nat → Int32} (h : pr_W sg nb lw G B sc gl nu si wh pl) (hk : k < nb) (hz : wh k = nI z) (hz2 : z ≤ 1480) :
    pr_W (va_up (px_rot sg k nb) (nb - 1) lw) (nb - 1) (px_rot sg k nb (nb - 1)) G B (pm_s1 sc k (nb - 1)) (pm_s1 gl k (nb - 1)) (pm_s1 nu k (nb - 1)) (pm_s1 si k (nb - 1)) (pm_s1 wh k (nb - 1)) (pm_s2 pl (1480 * k) (1480 * (nb - 1))) ∧
    pr_L (px_rot sg k nb (nb - 1)) 1 G B 1 (sc k) (gl k) (nu k) (wh k) (pm_cp md pl (1480 * k) z) := by
  obtain ⟨z', e1, e2, e3, e4, e5, e6⟩ := h.2.2.1 k hk
  have ez : z' = z := (nI_eq (by omega) (by omega)).mp (e2.symm.trans hz)
  subst ez
  have hn := h.1
  obtain ⟨r1, r2, r3, r4⟩ := pr_rot h hk
  have el : px_rot sg k nb (nb - 1) = sg k := by rw [px_rot_pi hk]; unfold px_pi; rw [if_pos (by omega)]
  refine ⟨⟨r1, px_inj_swap r2 (by omega), fun q hq => ?_, r4⟩, rfl, fun _ => ⟨z', ?_⟩⟩
  · rw [va_up_ne _ _ (show ¬ q = nb - 1 by omega)]
    exact r3 q hq
  · rw [el, e1]
    refine ⟨rfl, rfl, rfl, e2, e2, e4, fun i hi => ?_⟩
    unfold pm_cp
    rw [if_pos hi]
    exact (e5 i (by omega)).symm
