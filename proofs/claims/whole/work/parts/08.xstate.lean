/-! the class's state: its cells, read as numbers and functions -/
/-- a Datagram's numbers: source, goal, number, size, lacking, since -/
abbrev px_G : Type := Int32 × Int32 × Int32 × Int32 × Int32 × Int32
def px_fs (a : Nat) (g : px_G) : List Value := [.ref a, .int g.1, .int g.2.1, .int g.2.2.1, .int g.2.2.2.1, .int g.2.2.2.2.1, .int g.2.2.2.2.2]
abbrev px_T (cI cO : ClassId) : List (ClassId × FieldType) := [(cI, .int), (cO, .object RD)]
/-- what the bench's array holds -/
def px_bf (o sg : Nat → Nat) : Nat → Option Nat := fun q => if q < 4 then some (o (sg q)) else none
theorem px_bf_at {o sg : Nat → Nat} {k : Nat} (h : k < 4) : px_bf o sg k = some (o (sg k)) := if_pos h
/-- the bench's cells: the object, what is fed, the bench, five Datagrams each with its bytes; place q of the bench holds Datagram sg q, lastWhole is Datagram lw -/
def px_W (a0 af ab : Nat) (o ar : Nat → Nat) (cI cO : ClassId) (fd : Nat → Int32) (nf : Nat) (sg : Nat → Nat) (nb lw : Nat) (aw : Int32) (tm : Nat) (G : Nat → px_G) (B : Nat → Nat → Int32) : va_W :=
  [(a0, .inr (cP, [.ref af, .int (nI nf), .ref ab, .int (nI nb), .ref (o lw), .int aw, .int (nI tm)])), (af, .inl (cI, 1480, .inl fd)), (ab, .inl (cO, 4, .inr (.inr (.inr (.inr (px_bf o sg)))))),
   (o 0, .inr (cD, px_fs (ar 0) (G 0))), (ar 0, .inl (cI, 1480, .inl (B 0))), (o 1, .inr (cD, px_fs (ar 1) (G 1))), (ar 1, .inl (cI, 1480, .inl (B 1))), (o 2, .inr (cD, px_fs (ar 2) (G 2))), (ar 2, .inl (cI, 1480, .inl (B 2))),
   (o 3, .inr (cD, px_fs (ar 3) (G 3))), (ar 3, .inl (cI, 1480, .inl (B 3))), (o 4, .inr (cD, px_fs (ar 4) (G 4))), (ar 4, .inl (cI, 1480, .inl (B 4)))]
section PX
variable {a0 af ab : Nat} {o ar : Nat → Nat} {cI cO : ClassId} {fd : Nat → Int32} {nf : Nat} {sg : Nat → Nat} {nb lw : Nat} {aw : Int32} {tm : Nat} {G : Nat → px_G} {B : Nat → Nat → Int32} {j : Nat}
theorem px_5 (hj : j < 5) : j = 0 ∨ j = 1 ∨ j = 2 ∨ j = 3 ∨ j = 4 := by omega
theorem px_ato (hj : j < 5) : (px_W a0 af ab o ar cI cO fd nf sg nb lw aw tm G B)[3 + 2 * j]? = some (o j, .inr (cD, px_fs (ar j) (G j))) := by
  rcases px_5 hj with rfl | rfl | rfl | rfl | rfl <;> rfl
theorem px_ata (hj : j < 5) : (px_W a0 af ab o ar cI cO fd nf sg nb lw aw tm G B)[4 + 2 * j]? = some (ar j, .inl (cI, 1480, .inl (B j))) := by
  rcases px_5 hj with rfl | rfl | rfl | rfl | rfl <;> rfl
theorem px_seto (hj : j < 5) (g : px_G) : (px_W a0 af ab o ar cI cO fd nf sg nb lw aw tm G B).set (3 + 2 * j) (o j, .inr (cD, px_fs (ar j) g)) = px_W a0 af ab o ar cI cO fd nf sg nb lw aw tm (va_up G j g) B := by
  rcases px_5 hj with rfl | rfl | rfl | rfl | rfl <;> rfl
theorem px_seta (hj : j < 5) (b : Nat → Int32) : (px_W a0 af ab o ar cI cO fd nf sg nb lw aw tm G B).set (4 + 2 * j) (ar j, .inl (cI, 1480, .inl b)) = px_W a0 af ab o ar cI cO fd nf sg nb lw aw tm G (va_up B j b) := by
  rcases px_5 hj with rfl | rfl | rfl | rfl | rfl <;> rfl
theorem px_id {α : Type} (f : Nat → α) (k : Nat) : va_up f k (f k) = f := by
  funext i
  unfold va_up
  split
  · next h => rw [h]
  · rfl
theorem px_ato' (hj : j < 5) {g : px_G} : (px_W a0 af ab o ar cI cO fd nf sg nb lw aw tm (va_up G j g) B)[3 + 2 * j]? = some (o j, .inr (cD, px_fs (ar j) g)) := by
  have h := px_ato (a0 := a0) (af := af) (ab := ab) (o := o) (ar := ar) (cI := cI) (cO := cO) (fd := fd) (nf := nf) (sg := sg) (nb := nb) (lw := lw) (aw := aw) (tm := tm) (G := va_up G j g) (B := B) hj
  rwa [va_up_self] at h
theorem px_ata' (hj : j < 5) {b : Nat → Int32} : (px_W a0 af ab o ar cI cO fd nf sg nb lw aw tm G (va_up B j b))[4 + 2 * j]? = some (ar j, .inl (cI, 1480, .inl b)) := by
  have h := px_ata (a0 := a0) (af := af) (ab := ab) (o := o) (ar := ar) (cI := cI) (cO := cO) (fd := fd) (nf := nf) (sg := sg) (nb := nb) (lw := lw) (aw := aw) (tm := tm) (G := G) (B := va_up B j b) hj
  rwa [va_up_self] at h
theorem px_seto' (hj : j < 5) {g : px_G} (g' : px_G) : (px_W a0 af ab o ar cI cO fd nf sg nb lw aw tm (va_up G j g) B).set (3 + 2 * j) (o j, .inr (cD, px_fs (ar j) g')) = px_W a0 af ab o ar cI cO fd nf sg nb lw aw tm (va_up G j g') B := by
  rw [px_seto hj, bx_uu]
theorem px_seta' (hj : j < 5) {b : Nat → Int32} (b' : Nat → Int32) : (px_W a0 af ab o ar cI cO fd nf sg nb lw aw tm G (va_up B j b)).set (4 + 2 * j) (ar j, .inl (cI, 1480, .inl b')) = px_W a0 af ab o ar cI cO fd nf sg nb lw aw tm G (va_up B j b') := by
  rw [px_seta hj, bx_uu]
/-- place i of the bench now holds Datagram v -/
theorem px_sets {i : Nat} (hi : i < 4) (v : Nat) : (px_W a0 af ab o ar cI cO fd nf sg nb lw aw tm G B).set 2 (ab, .inl (cO, 4, .inr (.inr (.inr (.inr (va_up (px_bf o sg) i (some (o v)))))))) = px_W a0 af ab o ar cI cO fd nf (va_up sg i v) nb lw aw tm G B := by
  have h : va_up (px_bf o sg) i (some (o v)) = px_bf o (va_up sg i v) := by
    funext q
    unfold va_up px_bf
    by_cases h1 : q = i
    · subst h1
      simp [hi]
    · simp [h1]
  rw [h]
  rfl
end PX
/-- whether a Datagram is told by these three numbers -/
def px_tl (g : px_G) (a b c : Int32) : Prop := g.1 = a ∧ g.2.1 = b ∧ g.2.2.1 = c
/-- the bench's places behind forget k -/
def px_sh (sg : Nat → Nat) (k i : Nat) : Nat → Nat := fun q => if k ≤ q ∧ q < i then sg (q + 1) else sg q
def px_rot (sg : Nat → Nat) (k nb : Nat) : Nat → Nat := va_up (px_sh sg k (nb - 1)) (nb - 1) (sg k)
theorem px_sh_0 (sg : Nat → Nat) (k : Nat) : px_sh sg k k = sg := by
  funext q
  unfold px_sh
  rw [if_neg (by omega)]
theorem px_sh_s (sg : Nat → Nat) {k i : Nat} (h : k ≤ i) : va_up (px_sh sg k i) i (px_sh sg k i (i + 1)) = px_sh sg k (i + 1) := by
  funext q
  have e : px_sh sg k i (i + 1) = sg (i + 1) := by unfold px_sh; rw [if_neg (by omega)]
  rw [e]
  unfold va_up px_sh
  by_cases h1 : q = i
  · subst h1
    rw [if_pos rfl, if_pos (by omega)]
  · rw [if_neg h1]
    by_cases h2 : k ≤ q ∧ q < i
    · rw [if_pos h2, if_pos (by omega)]
    · rw [if_neg h2, if_neg (by omega)]
theorem px_sh_lt {sg : Nat → Nat} {k i : Nat} (h : ∀ q, q < 4 → sg q < 5) (hi : i ≤ 3) : ∀ q, q < 4 → px_sh sg k i q < 5 := by
  intro q hq
  unfold px_sh
  split
  · exact h _ (by omega)
  · exact h _ hq
theorem px_rot_lt {sg : Nat → Nat} {k nb : Nat} (h : ∀ q, q < 4 → sg q < 5) (hk : k < nb) (hn : nb ≤ 4) : ∀ q, q < 4 → px_rot sg k nb q < 5 := by
  intro q hq
  unfold px_rot va_up
  split
  · exact h _ (by omega)
  · exact px_sh_lt h (by omega) q hq
/-- what take does: bytes and lacking, k bytes on -/
def px_tB (b fd : Nat → Int32) (fr : Nat) : Nat → Nat → Int32
  | 0 => b
  | k + 1 => if px_tB b fd fr k (fr + k) = -1 then upd (px_tB b fd fr k) (fr + k) (fd k) else px_tB b fd fr k
def px_tL (b fd : Nat → Int32) (fr : Nat) (lk : Int32) : Nat → Int32
  | 0 => lk
  | k + 1 => if px_tB b fd fr k (fr + k) = -1 then px_tL b fd fr lk k - 1 else px_tL b fd fr lk k
/-- what Arrays.fill does, k places on -/
def px_fl (b : Nat → Int32) (v : Int32) (k : Nat) : Nat → Int32 := fun i => if i < k then v else b i
theorem px_fl_0 (b : Nat → Int32) (v : Int32) : px_fl b v 0 = b := by
  funext i
  unfold px_fl
  rw [if_neg (by omega)]
theorem px_fl_s (b : Nat → Int32) (v : Int32) (k : Nat) : upd (px_fl b v k) k v = px_fl b v (k + 1) := by
  funext i
  by_cases h : i = k
  · subst h
    rw [pk_us]
    unfold px_fl
    rw [if_pos (by omega)]
  · rw [pk_un h]
    unfold px_fl
    by_cases h2 : i < k
    · rw [if_pos h2, if_pos (by omega)]
    · rw [if_neg h2, if_neg (by omega)]
/-- a byte of a long -/
def px_by (x : Int64) (d : Int32) : Int32 := (x.toUInt64 >>> (d.toInt64.toUInt64 &&& Int64.toUInt64 63)).toInt64.toInt32 &&& 255
/-- what feed writes, k bytes on -/
def px_fd (fd : Nat → Int32) (nf : Nat) (x : Int64) (n : Int32) : Nat → Nat → Int32
  | 0 => fd
  | k + 1 => upd (px_fd fd nf x n k) (nf + k) (px_by x (8 * (n - 1 - nI k)))
/-- whether a Datagram of size zs holds byte i -/
def px_hd (zs : Nat) (b : Nat → Int32) (i : Int32) : Prop := ¬ i < 0 ∧ ¬ nI zs ≤ i ∧ ¬ b i.toNatClampNeg = -1
/-- given up, n places at most -/
def px_gv (tm : Nat) (G : Nat → px_G) : Nat → (Nat → Nat) → Nat → (Nat → Nat) × Nat
  | 0, sg, nb => (sg, nb)
  | n + 1, sg, nb => if 0 < nb ∧ ¬ nI tm - (G (sg 0)).2.2.2.2.2 < 300 then px_gv tm G n (px_rot sg 0 nb) (nb - 1) else (sg, nb)

/-- where the class finds a Datagram -/
def px_fnd (sg : Nat → Nat) (G : Nat → px_G) (nb : Nat) (a b c : Int32) (x : Option Nat) : Prop := match x with
  | some k => k < nb ∧ px_tl (G (sg k)) a b c ∧ ∀ q, q < k → ¬ px_tl (G (sg q)) a b c
  | none => ∀ q, q < nb → ¬ px_tl (G (sg q)) a b c
def px_ix (x : Option Nat) : Int32 := match x with
  | some k => nI k
  | none => -1
theorem px_ix_none {x : Option Nat} (hx : ∀ k, x = some k → k < 2 ^ 31) (h : px_ix x = -1) : x = none := by
  cases x with
  | none => rfl
  | some k =>
    have h2 : nI k = -1 := h
    have h3 : ¬ nI k < 0 := nI_pos (hx k rfl)
    rw [h2] at h3
    exact absurd (by decide) h3
def px_ms (sg : Nat → Nat) (G : Nat → px_G) (x : Option Nat) : Int32 := match x with
  | some k => (G (sg k)).2.2.2.2.1
  | none => -1
def px_hs (sg : Nat → Nat) (G : Nat → px_G) (B : Nat → Nat → Int32) (i : Int32) (x : Option Nat) : Prop := match x with
  | some k => ∃ zs, (G (sg k)).2.2.2.1 = nI zs ∧ px_hd zs (B (sg k)) i ∧ zs ≤ 1480
  | none => False
theorem px_sz {a b : Nat} (h : nI a = nI b) (ha : a ≤ 1480) (hb : b ≤ 1480) : a = b := (nI_eq (by omega) (by omega)).mp h
theorem px_pred {n : Nat} (h : 0 < n) : nI n - 1 = nI (n - 1) := by
  obtain ⟨k, rfl⟩ : ∃ k, n = k + 1 := ⟨n - 1, by omega⟩
  exact nI_pred k
/-- room on the bench for one more: the earliest goes if it is full -/
def px_mk (sg : Nat → Nat) (nb : Nat) : (Nat → Nat) × Nat := if nb = 4 then (px_rot sg 0 nb, nb - 1) else (sg, nb)
abbrev px_R : Type := (Nat → Nat) × Nat × Nat × Int32 × (Nat → px_G) × (Nat → Nat → Int32)
/-- what piece does once its Datagram stands at place k: the answer, the bench's places, how many, lastWhole, anyWhole, numbers, bytes -/
def px_tk (fd : Nat → Int32) (nf fr : Nat) (wh : Int32) (k : Nat) (sg : Nat → Nat) (nb lw : Nat) (aw : Int32) (G : Nat → px_G) (B : Nat → Nat → Int32) : Int32 × px_R :=
  if (G (sg k)).2.2.2.1 = wh then
    if px_tL (B (sg k)) fd fr (G (sg k)).2.2.2.2.1 nf ≤ 0 then
      (1, va_up (px_rot sg k nb) (nb - 1) lw, nb - 1, px_rot sg k nb (nb - 1), 1, va_up G (sg k) ((G (sg k)).1, (G (sg k)).2.1, (G (sg k)).2.2.1, (G (sg k)).2.2.2.1, px_tL (B (sg k)) fd fr (G (sg k)).2.2.2.2.1 nf, (G (sg k)).2.2.2.2.2), va_up B (sg k) (px_tB (B (sg k)) fd fr nf))
    else (0, sg, nb, lw, aw, va_up G (sg k) ((G (sg k)).1, (G (sg k)).2.1, (G (sg k)).2.2.1, (G (sg k)).2.2.2.1, px_tL (B (sg k)) fd fr (G (sg k)).2.2.2.2.1 nf, (G (sg k)).2.2.2.2.2), va_up B (sg k) (px_tB (B (sg k)) fd fr nf))
  else (-1, sg, nb, lw, aw, G, B)
def px_pc (fd : Nat → Int32) (nf fr : Nat) (a b d3 wh : Int32) (sg : Nat → Nat) (nb lw : Nat) (aw : Int32) (tm : Nat) (G : Nat → px_G) (B : Nat → Nat → Int32) (x : Option Nat) : Int32 × px_R := match x with
  | some k => px_tk fd nf fr wh k sg nb lw aw G B
  | none => px_tk fd nf fr wh (px_mk sg nb).2 (px_mk sg nb).1 ((px_mk sg nb).2 + 1) lw aw (va_up G ((px_mk sg nb).1 (px_mk sg nb).2) (a, b, d3, wh, wh, nI tm)) (va_up B ((px_mk sg nb).1 (px_mk sg nb).2) (px_fl (B ((px_mk sg nb).1 (px_mk sg nb).2)) (-1) 1480))
def px_ab (g : px_G) (w : Int32) : Int32 := if w = 0 then g.1 else if w = 1 then g.2.1 else if w = 2 then g.2.2.1 else g.2.2.2.1
theorem px_mk_le {sg : Nat → Nat} {nb : Nat} (h : nb ≤ 4) : (px_mk sg nb).2 < 4 := by
  unfold px_mk
  split
  · show nb - 1 < 4; omega
  · show nb < 4; omega
theorem px_mk_lt {sg : Nat → Nat} {nb : Nat} (hn : nb ≤ 4) (h : ∀ q, q < 4 → sg q < 5) : ∀ q, q < 4 → (px_mk sg nb).1 q < 5 := by
  unfold px_mk
  split
  · exact px_rot_lt h (by omega) hn
  · exact h
theorem px_bf4 (q0 q1 q2 q3 q4 : Nat) : va_up (va_up (va_up (va_up (fun _ => none) 0 (some q0)) 1 (some q1)) 2 (some q2)) 3 (some q3) = px_bf (fun i => [q0, q1, q2, q3, q4].getD i 0) (fun q => q) := by
  funext i
  rcases i with _ | _ | _ | _ | i <;> simp [va_up, px_bf]
/-- what a new bench's cells are: the addresses of fed, bench, the Datagrams, their bytes, and the two array classes -/
abbrev px_H : Type := Nat × Nat × (Nat → Nat) × (Nat → Nat) × ClassId × ClassId
abbrev px_N (a0 : Nat) (h : px_H) : va_W := px_W a0 h.1 h.2.1 h.2.2.1 h.2.2.2.1 h.2.2.2.2.1 h.2.2.2.2.2 (fun _ => 0) 0 (fun q => q) 0 4 0 0 (fun _ => (0, 0, 0, 0, 0, 0)) (fun _ _ => 0)
theorem pw_nlt {x y : Int32} (h : ¬ x < y) : y.toInt ≤ x.toInt := Int.not_lt.mp (fun q => h (Int32.lt_iff_toInt_lt.mpr q))
theorem pw_nle {x y : Int32} (h : ¬ x ≤ y) : y.toInt < x.toInt := Int.not_le.mp (fun q => h (Int32.le_iff_toInt_le.mpr q))
