/-! pure rows: how many bytes have not come; what take leaves; the bench's places as a permutation -/
def pa_c (b : Nat → Int32) : Nat → Nat
  | 0 => 0
  | n + 1 => pa_c b n + (if b n = -1 then 1 else 0)
theorem pa_c_le (b : Nat → Int32) : ∀ n, pa_c b n ≤ n
  | 0 => Nat.le_refl 0
  | n + 1 => by
    have h := pa_c_le b n
    unfold pa_c
    split <;> omega
theorem pa_c_congr {b b' : Nat → Int32} : ∀ {n : Nat}, (∀ i, i < n → b i = b' i) → pa_c b n = pa_c b' n
  | 0, _ => rfl
  | n + 1, h => by
    unfold pa_c
    rw [pa_c_congr (n := n) (fun i hi => h i (by omega)), h n (by omega)]
theorem pa_c_out {b : Nat → Int32} {i n : Nat} {v : Int32} (h : n ≤ i) : pa_c (upd b i v) n = pa_c b n := pa_c_congr (fun j hj => pk_un (by omega))
theorem pa_c_upd {b : Nat → Int32} {i : Nat} {v : Int32} (hb : b i = -1) (hv : ¬ v = -1) : ∀ {n : Nat}, i < n → pa_c (upd b i v) n + 1 = pa_c b n
  | 0, h => by omega
  | n + 1, h => by
    unfold pa_c
    by_cases e : n = i
    · subst e
      rw [pa_c_out (Nat.le_refl n), pk_us, if_neg hv, if_pos hb]
    · rw [pk_un e]
      have ih := pa_c_upd hb hv (n := n) (by omega)
      omega
theorem pa_c_0 {b : Nat → Int32} : ∀ {n : Nat}, pa_c b n = 0 ↔ ∀ i, i < n → ¬ b i = -1
  | 0 => ⟨fun _ i hi => absurd hi (by omega), fun _ => rfl⟩
  | n + 1 => by
    unfold pa_c
    have ih := pa_c_0 (b := b) (n := n)
    constructor
    · intro h i hi
      by_cases e : b n = -1
      · rw [if_pos e] at h; omega
      · rcases Nat.lt_or_ge i n with z | z
        · exact ih.mp (by omega) i z
        · rw [show i = n by omega]; exact e
    · intro h
      rw [if_neg (h n (by omega)), ih.mpr (fun i hi => h i (by omega))]
theorem pa_c_all {b : Nat → Int32} : ∀ {n : Nat}, (∀ i, i < n → b i = -1) → pa_c b n = n
  | 0, _ => rfl
  | n + 1, h => by
    unfold pa_c
    rw [pa_c_all (n := n) (fun i hi => h i (by omega)), if_pos (h n (by omega))]
theorem pa_tB (b fd : Nat → Int32) (fr : Nat) : ∀ (k i : Nat), px_tB b fd fr k i = if fr ≤ i ∧ i < fr + k ∧ b i = -1 then fd (i - fr) else b i
  | 0, i => by
    rw [if_neg (by omega)]
    rfl
  | k + 1, i => by
    unfold px_tB
    have e : px_tB b fd fr k (fr + k) = b (fr + k) := by rw [pa_tB b fd fr k, if_neg (by omega)]
    rw [e]
    by_cases h : b (fr + k) = -1
    · rw [if_pos h]
      by_cases hi : i = fr + k
      · subst hi
        rw [pk_us, if_pos ⟨by omega, by omega, h⟩, Nat.add_sub_cancel_left]
      · rw [pk_un hi, pa_tB b fd fr k]
        by_cases h2 : fr ≤ i ∧ i < fr + k ∧ b i = -1
        · rw [if_pos h2, if_pos ⟨h2.1, by omega, h2.2.2⟩]
        · rw [if_neg h2, if_neg (fun q => h2 ⟨q.1, by omega, q.2.2⟩)]
    · rw [if_neg h, pa_tB b fd fr k]
      by_cases h2 : fr ≤ i ∧ i < fr + k ∧ b i = -1
      · rw [if_pos h2, if_pos ⟨h2.1, by omega, h2.2.2⟩]
      · rw [if_neg h2, if_neg (fun q => h2 ⟨q.1, by
          rcases Nat.lt_or_ge i (fr + k) with z | z
          · exact z
          · exact absurd q.2.2 (by rw [show i = fr + k by omega]; exact h), q.2.2⟩)]
theorem pa_tL {b fd : Nat → Int32} {fr n : Nat} : ∀ {k : Nat}, fr + k ≤ n → (∀ i, i < k → ¬ fd i = -1) → px_tL b fd fr (nI (pa_c b n)) k = nI (pa_c (px_tB b fd fr k) n)
  | 0, _, _ => rfl
  | k + 1, h, hf => by
    have ih := pa_tL (b := b) (fd := fd) (fr := fr) (n := n) (k := k) (by omega) (fun i hi => hf i (by omega))
    have e1 : px_tL b fd fr (nI (pa_c b n)) (k + 1) = if px_tB b fd fr k (fr + k) = -1 then px_tL b fd fr (nI (pa_c b n)) k - 1 else px_tL b fd fr (nI (pa_c b n)) k := rfl
    have e2 : px_tB b fd fr (k + 1) = if px_tB b fd fr k (fr + k) = -1 then upd (px_tB b fd fr k) (fr + k) (fd k) else px_tB b fd fr k := rfl
    rw [e1, e2]
    by_cases e : px_tB b fd fr k (fr + k) = -1
    · rw [if_pos e, if_pos e, ih]
      have hc := pa_c_upd (v := fd k) e (hf k (by omega)) (n := n) (by omega)
      rw [← hc, nI_pred]
    · rw [if_neg e, if_neg e, ih]
/-- px_rot picks places -/
def px_pi (k nb q : Nat) : Nat := if q + 1 = nb then k else if k ≤ q ∧ q + 1 < nb then q + 1 else q
theorem px_rot_pi {sg : Nat → Nat} {k nb : Nat} (hk : k < nb) (q : Nat) : px_rot sg k nb q = sg (px_pi k nb q) := by
  unfold px_rot px_pi va_up px_sh
  by_cases h : q = nb - 1
  · rw [if_pos h, if_pos (by omega)]
  · rw [if_neg h]
    by_cases h2 : k ≤ q ∧ q < nb - 1
    · rw [if_pos h2, if_neg (show ¬ q + 1 = nb by omega), if_pos (show k ≤ q ∧ q + 1 < nb by omega)]
    · rw [if_neg h2, if_neg (show ¬ q + 1 = nb by omega), if_neg (show ¬ (k ≤ q ∧ q + 1 < nb) by omega)]
theorem px_pi_inj {k nb q r : Nat} (hk : k < nb) (h : px_pi k nb q = px_pi k nb r) : q = r := by
  unfold px_pi at h
  split at h <;> split at h <;> (try split at h) <;> (try split at h) <;> omega
theorem px_pi_lt {k nb q : Nat} (hk : k < nb) (hn : nb ≤ 4) (hq : q < 4) : px_pi k nb q < 4 := by
  unfold px_pi
  split
  · omega
  · split <;> omega
/-- the bench's places and lastWhole are five different Datagrams -/
def px_inj (sg : Nat → Nat) (lw : Nat) : Prop := (∀ q, q < 4 → sg q < 5) ∧ lw < 5 ∧ (∀ q r, q < 4 → r < 4 → sg q = sg r → q = r) ∧ ∀ q, q < 4 → ¬ sg q = lw
theorem px_inj_rot {sg : Nat → Nat} {lw k nb : Nat} (h : px_inj sg lw) (hk : k < nb) (hn : nb ≤ 4) : px_inj (px_rot sg k nb) lw := by
  obtain ⟨h1, h2, h3, h4⟩ := h
  refine ⟨px_rot_lt h1 hk hn, h2, fun q r hq hr e => ?_, fun q hq e => ?_⟩
  · rw [px_rot_pi hk, px_rot_pi hk] at e
    exact px_pi_inj hk (h3 _ _ (px_pi_lt hk hn hq) (px_pi_lt hk hn hr) e)
  · rw [px_rot_pi hk] at e
    exact h4 _ (px_pi_lt hk hn hq) e
theorem px_inj_swap {sg : Nat → Nat} {lw k : Nat} (h : px_inj sg lw) (hk : k < 4) : px_inj (va_up sg k lw) (sg k) := by
  obtain ⟨h1, h2, h3, h4⟩ := h
  refine ⟨fun q hq => ?_, h1 k hk, fun q r hq hr e => ?_, fun q hq e => ?_⟩
  · unfold va_up
    split
    · exact h2
    · exact h1 q hq
  · unfold va_up at e
    by_cases a : q = k <;> by_cases b : r = k
    · omega
    · rw [if_pos a, if_neg b] at e
      exact absurd e.symm (h4 r hr)
    · rw [if_neg a, if_pos b] at e
      exact absurd e (h4 q hq)
    · rw [if_neg a, if_neg b] at e
      exact h3 q r hq hr e
  · unfold va_up at e
    by_cases a : q = k
    · rw [if_pos a] at e
      exact h4 k hk e.symm
    · rw [if_neg a] at e
      exact a (h3 q k hq hk e)
