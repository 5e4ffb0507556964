/-! the reference's state: one object and eight int arrays -/
def pm_W (m0 : Nat) (ad : Nat → Nat) (cI : ClassId) (cd : Int32) (mt mf : Nat) (fd : Nat → Int32) (ct : Nat) (sc gl nu si wh pl : Nat → Int32) (sm ms mg mn mk : Int32) (md : Nat → Int32) : va_W :=
  [(m0, .inr (cM, [.int cd, .int (nI mt), .int (nI mf), .ref (ad 0), .int (nI ct), .ref (ad 1), .ref (ad 2), .ref (ad 3), .ref (ad 4), .ref (ad 5), .ref (ad 6), .int sm, .int ms, .int mg, .int mn, .int mk, .ref (ad 7)])),
   (ad 0, .inl (cI, 1480, .inl fd)), (ad 1, .inl (cI, 5, .inl sc)), (ad 2, .inl (cI, 5, .inl gl)), (ad 3, .inl (cI, 5, .inl nu)), (ad 4, .inl (cI, 5, .inl si)), (ad 5, .inl (cI, 5, .inl wh)), (ad 6, .inl (cI, 7400, .inl pl)), (ad 7, .inl (cI, 1480, .inl md))]
/-- one place down, from k up to i -/
def pm_s1 (f : Nat → Int32) (k i : Nat) : Nat → Int32 := fun q => if k ≤ q ∧ q < i then f (q + 1) else f q
theorem pm_s1_0 (f : Nat → Int32) (k : Nat) : pm_s1 f k k = f := by
  funext q
  unfold pm_s1
  rw [if_neg (by omega)]
theorem pm_s1_s (f : Nat → Int32) {k i : Nat} (h : k ≤ i) : upd (pm_s1 f k i) i (pm_s1 f k i (i + 1)) = pm_s1 f k (i + 1) := by
  funext q
  have e : pm_s1 f k i (i + 1) = f (i + 1) := by unfold pm_s1; rw [if_neg (by omega)]
  rw [e]
  by_cases h1 : q = i
  · subst h1
    rw [pk_us]
    unfold pm_s1
    rw [if_pos (by omega)]
  · rw [pk_un h1]
    unfold pm_s1
    by_cases h2 : k ≤ q ∧ q < i
    · rw [if_pos h2, if_pos (by omega)]
    · rw [if_neg h2, if_neg (by omega)]
/-- 1480 places down, from lo up to hi -/
def pm_s2 (f : Nat → Int32) (lo hi : Nat) : Nat → Int32 := fun q => if lo ≤ q ∧ q < hi then f (q + 1480) else f q
theorem pm_s2_0 (f : Nat → Int32) (k : Nat) : pm_s2 f k k = f := by
  funext q
  unfold pm_s2
  rw [if_neg (by omega)]
theorem pm_s2_s (f : Nat → Int32) {lo hi : Nat} (h : lo ≤ hi) : upd (pm_s2 f lo hi) hi (pm_s2 f lo hi (hi + 1480)) = pm_s2 f lo (hi + 1) := by
  funext q
  have e : pm_s2 f lo hi (hi + 1480) = f (hi + 1480) := by unfold pm_s2; rw [if_neg (by omega)]
  rw [e]
  by_cases h1 : q = hi
  · subst h1
    rw [pk_us]
    unfold pm_s2
    rw [if_pos (by omega)]
  · rw [pk_un h1]
    unfold pm_s2
    by_cases h2 : lo ≤ q ∧ q < hi
    · rw [if_pos h2, if_pos (by omega)]
    · rw [if_neg h2, if_neg (by omega)]
theorem pm_ix (k i : Nat) : (1480 : Int32) * nI k + nI i = nI (1480 * k + i) := by
  rw [show (1480 : Int32) = nI 1480 from rfl, pk_mul, nI_add]
theorem pm_ix2 (k i : Nat) : ((1480 : Int32) * nI k + 1480) + nI i = nI (1480 * k + 1480 + i) := by
  rw [show (1480 : Int32) = nI 1480 from rfl, pk_mul, nI_add, nI_add]
theorem pm_ix3 (k f i : Nat) : ((1480 : Int32) * nI k + nI f) + nI i = nI (1480 * k + f + i) := by
  rw [show (1480 : Int32) = nI 1480 from rfl, pk_mul, nI_add, nI_add]
/-- how many of n are less than 0 -/
def pm_c (f : Nat → Int32) : Nat → Nat
  | 0 => 0
  | n + 1 => pm_c f n + (if f n < 0 then 1 else 0)
/-- whether place k is told by these three numbers -/
def pm_tl (sc gl nu : Nat → Int32) (k : Nat) (a b c : Int32) : Prop := sc k = a ∧ gl k = b ∧ nu k = c
/-- where the reference finds a datagram: the last place -/
def pm_fnd (sc gl nu : Nat → Int32) (ct : Nat) (a b c : Int32) (x : Option Nat) : Prop := match x with
  | some k => k < ct ∧ pm_tl sc gl nu k a b c ∧ ∀ q, k < q → q < ct → ¬ pm_tl sc gl nu q a b c
  | none => ∀ q, q < ct → ¬ pm_tl sc gl nu q a b c
theorem pm_fnd_y {sc gl nu : Nat → Int32} {k : Nat} {a b c : Int32} {x : Option Nat} (h : pm_tl sc gl nu k a b c) : pm_fnd sc gl nu (k + 1) a b c (some k) := ⟨Nat.lt_succ_self k, h, fun q h1 h2 => by omega⟩
theorem pm_fnd_n {sc gl nu : Nat → Int32} {k : Nat} {a b c : Int32} {x : Option Nat} (hx : pm_fnd sc gl nu k a b c x) (h : ¬ pm_tl sc gl nu k a b c) : pm_fnd sc gl nu (k + 1) a b c x := by
  cases x with
  | none =>
    intro q hq
    rcases Nat.lt_or_ge q k with z | z
    · exact hx q z
    · rw [show q = k by omega]; exact h
  | some j =>
    refine ⟨by have := hx.1; omega, hx.2.1, fun q h1 h2 => ?_⟩
    rcases Nat.lt_or_ge q k with z | z
    · exact hx.2.2 q h1 z
    · rw [show q = k by omega]; exact h
/-- a byte of a long, as the reference has it -/
def pm_by (x : Int64) (d : Int32) : Int32 := ((x >>> (d.toInt64 &&& 63)) &&& 255).toInt32
def pm_fd (fd : Nat → Int32) (nf : Nat) (x : Int64) (n : Nat) : Nat → Nat → Int32
  | 0 => fd
  | k + 1 => upd (pm_fd fd nf x n k) (nf + k) (pm_by x (8 * nI (n - 1 - k)))
/-- -1 from lo on, k places -/
def pm_fl (f : Nat → Int32) (lo k : Nat) : Nat → Int32 := fun i => if lo ≤ i ∧ i < lo + k then -1 else f i
theorem pm_fl_0 (f : Nat → Int32) (lo : Nat) : pm_fl f lo 0 = f := by
  funext q
  unfold pm_fl
  rw [if_neg (by omega)]
theorem pm_fl_s (f : Nat → Int32) (lo k : Nat) : upd (pm_fl f lo k) (lo + k) (-1) = pm_fl f lo (k + 1) := by
  funext q
  by_cases h1 : q = lo + k
  · subst h1
    rw [pk_us]
    unfold pm_fl
    rw [if_pos (by omega)]
  · rw [pk_un h1]
    unfold pm_fl
    by_cases h2 : lo ≤ q ∧ q < lo + k
    · rw [if_pos h2, if_pos (by omega)]
    · rw [if_neg h2, if_neg (by omega)]
/-- k places of pl from lo on, put to the start of md -/
def pm_cp (md pl : Nat → Int32) (lo k : Nat) : Nat → Int32 := fun i => if i < k then pl (lo + i) else md i
theorem pm_cp_0 (md pl : Nat → Int32) (lo : Nat) : pm_cp md pl lo 0 = md := by
  funext q
  unfold pm_cp
  rw [if_neg (by omega)]
theorem pm_cp_s (md pl : Nat → Int32) (lo k : Nat) : upd (pm_cp md pl lo k) k (pl (lo + k)) = pm_cp md pl lo (k + 1) := by
  funext q
  by_cases h1 : q = k
  · subst h1
    rw [pk_us]
    unfold pm_cp
    rw [if_pos (by omega)]
  · rw [pk_un h1]
    unfold pm_cp
    by_cases h2 : q < k
    · rw [if_pos h2, if_pos (by omega)]
    · rw [if_neg h2, if_neg (by omega)]
/-- what piece writes, k bytes on -/
def pm_tB (pl fd : Nat → Int32) (lo : Nat) : Nat → Nat → Int32
  | 0 => pl
  | k + 1 => upd (pm_tB pl fd lo k) (lo + k) (if pm_tB pl fd lo k (lo + k) < 0 then fd k else pm_tB pl fd lo k (lo + k))
/-- count, source, goal, number, since, whole, place, some, madeSource, madeGoal, madeNumber, madeCount, made -/
abbrev pm_R : Type := Nat × (Nat → Int32) × (Nat → Int32) × (Nat → Int32) × (Nat → Int32) × (Nat → Int32) × (Nat → Int32) × Int32 × Int32 × Int32 × Int32 × Int32 × (Nat → Int32)
/-- piece, once its datagram of wn bytes stands at place k -/
def pm_tk (fd : Nat → Int32) (mf fr k wn ct : Nat) (sc gl nu si wh pl : Nat → Int32) (sm ms mg mn mk : Int32) (md : Nat → Int32) : Int32 × pm_R :=
  if pm_c (fun i => pm_tB pl fd (1480 * k + fr) mf (1480 * k + i)) wn = 0 then
    (1, ct - 1, pm_s1 sc k (ct - 1), pm_s1 gl k (ct - 1), pm_s1 nu k (ct - 1), pm_s1 si k (ct - 1), pm_s1 wh k (ct - 1), pm_s2 (pm_tB pl fd (1480 * k + fr) mf) (1480 * k) (1480 * (ct - 1)), 1, sc k, gl k, nu k, wh k, pm_cp md (pm_tB pl fd (1480 * k + fr) mf) (1480 * k) wn)
  else (0, ct, sc, gl, nu, si, wh, pm_tB pl fd (1480 * k + fr) mf, sm, ms, mg, mn, mk, md)
/-- begin: room for one more, its numbers, -1 at its places -/
def pm_mk (ct : Nat) (f : Nat → Int32) : Nat → Int32 := if ct = 4 then pm_s1 f 0 3 else f
def pm_mk2 (ct : Nat) (f : Nat → Int32) : Nat → Int32 := if ct = 4 then pm_s2 f 0 4440 else f
def pm_mkn (ct : Nat) : Nat := if ct = 4 then 3 else ct
/-- given up: count, source, goal, number, since, whole, place, n places at most -/
def pm_gv (mt : Nat) : Nat → Nat → (Nat → Int32) → (Nat → Int32) → (Nat → Int32) → (Nat → Int32) → (Nat → Int32) → (Nat → Int32) → Nat × (Nat → Int32) × (Nat → Int32) × (Nat → Int32) × (Nat → Int32) × (Nat → Int32) × (Nat → Int32)
  | 0, ct, sc, gl, nu, si, wh, pl => (ct, sc, gl, nu, si, wh, pl)
  | n + 1, ct, sc, gl, nu, si, wh, pl => if 0 < ct ∧ ¬ nI mt - si 0 < 300 then pm_gv mt n (ct - 1) (pm_s1 sc 0 (ct - 1)) (pm_s1 gl 0 (ct - 1)) (pm_s1 nu 0 (ct - 1)) (pm_s1 si 0 (ct - 1)) (pm_s1 wh 0 (ct - 1)) (pm_s2 pl 0 (1480 * (ct - 1))) else (ct, sc, gl, nu, si, wh, pl)
theorem pm_nn {x : Int32} (h : 0 ≤ x) : ¬ x < 0 := Int32.not_lt.mpr h
theorem pm_ng {x : Int32} (h : ¬ 0 ≤ x) : x < 0 := Int32.not_le.mp h
def pm_hs (pl : Nat → Int32) (wn : Nat → Nat) (i : Int32) (x : Option Nat) : Prop := match x with
  | some k => ¬ i < 0 ∧ ¬ nI (wn k) ≤ i ∧ ¬ pl (1480 * k + i.toNatClampNeg) < 0
  | none => False
def pm_pc (fd : Nat → Int32) (mf fr w0 : Nat) (a b d3 wl : Int32) (mt ct : Nat) (sc gl nu si wh pl : Nat → Int32) (sm ms mg mn mk : Int32) (md : Nat → Int32) (x : Option Nat) : Int32 × pm_R := match x with
  | some k => if wh k = wl then pm_tk fd mf fr k w0 ct sc gl nu si wh pl sm ms mg mn mk md else (-1, ct, sc, gl, nu, si, wh, pl, sm, ms, mg, mn, mk, md)
  | none => pm_tk fd mf fr (pm_mkn ct) w0 (pm_mkn ct + 1) (upd (pm_mk ct sc) (pm_mkn ct) a) (upd (pm_mk ct gl) (pm_mkn ct) b) (upd (pm_mk ct nu) (pm_mkn ct) d3) (upd (pm_mk ct si) (pm_mkn ct) (nI mt)) (upd (pm_mk ct wh) (pm_mkn ct) wl) (pm_fl (pm_mk2 ct pl) (1480 * pm_mkn ct) 1480) sm ms mg mn mk md
theorem pm_mkn_le {ct : Nat} (h : ct ≤ 4) : pm_mkn ct ≤ 3 := by
  unfold pm_mkn
  split <;> omega
theorem pm_c_le (f : Nat → Int32) : ∀ n, pm_c f n ≤ n
  | 0 => Nat.le_refl 0
  | n + 1 => by
    have h := pm_c_le f n
    unfold pm_c
    split <;> omega
