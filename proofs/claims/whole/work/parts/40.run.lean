/-! a run, in numbers -/
def mx (x y : Int64) : Int64 := if y < x then x else y
def mn (x y : Int64) : Int64 := if y < x then y else x
/-- the earliest tick by the edges of m, from moment b on; none: another must come first -/
def blE (e : tkD) (T : Nat → Int32) (m : Nat) : Nat → Nat → Int64 → Option Int64
  | 0, _, a => some a
  | n + 1, b, a => if b = m ∨ e m b = 4611686018427387904 then blE e T m n (b + 1) a else if T b = -9 then (if e m b < 0 then none else blE e T m n (b + 1) a) else blE e T m n (b + 1) (mx a ((T b).toInt64 - e m b))
def blW (S : tkS) (v : tkD) (T : Nat → Int32) (m : Nat) : Nat → Nat → Int64 → Option Int64
  | 0, _, a => some a
  | n + 1, g, a => if 0 ≤ v m g ∨ ¬ T (se S (sgl S g)) = -9 then blW S v T m n (g + 1) a else if T (sf S (sgl S g)) = -9 then none else blW S v T m n (g + 1) (mx a ((T (sf S (sgl S g))).toInt64 - v m g))
def laF (e : tkD) (T : Nat → Int32) (m : Nat) : Nat → Nat → Int64 → Int64
  | 0, _, a => a
  | n + 1, b, a => if b = m ∨ T b = -9 ∨ e b m = 4611686018427387904 then laF e T m n (b + 1) a else laF e T m n (b + 1) (mn a ((T b).toInt64 + e b m))
def ftE (S : tkS) (e v : tkD) (T : Nat → Int32) (t : Int32) (m : Nat) : Int64 := mx t.toInt64 (mx ((blE e T m (sM S) 0 0).getD 4611686018427387904) ((blW S v T m (sG S) 0 0).getD 4611686018427387904))
def ftF (S : tkS) (e v : tkD) (T : Nat → Int32) (t : Int32) (m : Nat) : Int64 := if ftE S e v T t m ≤ laF e T m (sM S) 0 4611686018427387904 then ftE S e v T t m else 4611686018427387904
abbrev opn (S : tkS) (T : Nat → Int32) (m : Nat) : Prop := T m = -9 ∧ ¬ gt S m < sG S
abbrev canC (S : tkS) (e v : tkD) (T : Nat → Int32) (t : Int32) (m : Nat) : Prop := opn S T m ∧ ftF S e v T t m = t.toInt64
def lcF (S : tkS) (e v : tkD) (T : Nat → Int32) (t : Int32) : Nat → Nat → Option Nat
  | 0, _ => none
  | n + 1, m => if canC S e v T t m then some m else lcF S e v T t n (m + 1)
def goF (S : tkS) (e v : tkD) (t : Int32) : Nat → (Nat → Int32) → Nat × (Nat → Int32)
  | 0, T => (0, T)
  | f + 1, T => match lcF S e v T t (sM S) 0 with
    | none => (0, T)
    | some m => ((goF S e v t f (tk_u1 T m t)).1 + 1, (goF S e v t f (tk_u1 T m t)).2)
abbrev udw (S : tkS) (T : Nat → Int32) (g : Nat) : Prop := ¬ T (sf S (sgl S g)) = -9 ∧ T (se S (sgl S g)) = -9
def ltF (S : tkS) (T : Nat → Int32) (t : Int32) : Nat → Nat → Bool
  | 0, _ => false
  | n + 1, g => if udw S T g ∧ shi S (sgl S g) < t - T (sf S (sgl S g)) then true else ltF S T t n (g + 1)
def paM (S : tkS) (e v : tkD) (T : Nat → Int32) (t : Int32) : Nat → Nat → Int64 → Int64
  | 0, _, a => a
  | n + 1, m, a => if opn S T m then paM S e v T t n (m + 1) (mn a (ftF S e v T t m)) else paM S e v T t n (m + 1) a
def paG (S : tkS) (T : Nat → Int32) : Nat → Nat → Int64 → Int64
  | 0, _, a => a
  | n + 1, g, a => if udw S T g then paG S T n (g + 1) (mn a ((T (sf S (sgl S g))).toInt64 + (shi S (sgl S g)).toInt64)) else paG S T n (g + 1) a
def paF (S : tkS) (e v : tkD) (T : Nat → Int32) (t n : Int32) : Int64 := paG S T (sG S) 0 (paM S e v T t (sM S) 0 (t.toInt64 + n.toInt64))
def fbF (S : tkS) (T : Nat → Int32) : Nat → Nat → Int32
  | 0, _ => -9
  | n + 1, l => if T (se S l) - T (sf S l) < slo S l ∨ shi S l < T (se S l) - T (sf S l) then nI l else fbF S T n (l + 1)
abbrev cgvF (S : tkS) (T : Nat → Int32) (t : Int32) (m : Nat) : Prop := gt S m < sG S ∧ T m = -9 ∧ ¬ T (sf S (sgl S (gt S m))) = -9 ∧ slo S (sgl S (gt S m)) ≤ t - T (sf S (sgl S (gt S m))) ∧ t - T (sf S (sgl S (gt S m))) ≤ shi S (sgl S (gt S m))
theorem ite01 {p : Prop} [Decidable p] : (if p then (0 : Int32) else 1) = 0 ↔ p := by
  by_cases h : p
  · rw [if_pos h]; exact ⟨fun _ => h, fun _ => rfl⟩
  · rw [if_neg h]; exact ⟨fun z => absurd z (by decide), fun z => absurd z h⟩
theorem ite10 {p : Prop} [Decidable p] : (if p then (1 : Int32) else 0) = 0 ↔ ¬ p := by
  by_cases h : p
  · rw [if_pos h]; exact ⟨fun z => absurd z (by decide), fun z => absurd h z⟩
  · rw [if_neg h]; exact ⟨fun _ => h, fun _ => rfl⟩
theorem ite_b {p : Prop} [Decidable p] : (if p then (0 : Int32) else 1) = 0 ∨ (if p then (0 : Int32) else 1) = 1 := by
  by_cases h : p
  · exact Or.inl (if_pos h)
  · exact Or.inr (if_neg h)
theorem ite_c {p : Prop} [Decidable p] : (if p then (1 : Int32) else 0) = 0 ∨ (if p then (1 : Int32) else 0) = 1 := by
  by_cases h : p
  · exact Or.inr (if_pos h)
  · exact Or.inl (if_neg h)
theorem lg_gt (x y : Int64) : 0 < lg_cmp x y ↔ y < x := by
  have h1 := lg_cmp_eq x y
  have h2 := lg_cmp_lt x y
  have h3 := lg_cmp_ge x y
  constructor
  · intro h
    rcases Int64.lt_or_lt_of_ne (a := x) (b := y) (fun z => by rw [h1.mpr z] at h; exact absurd h (by decide)) with z | z
    · have := h2.mpr z
      exact absurd (Int32.lt_trans h this) (by decide)
    · exact z
  · intro h
    have a1 : ¬ lg_cmp x y = 0 := fun z => by rw [h1.mp z] at h; exact absurd h Int64.lt_irrefl
    have a2 : ¬ lg_cmp x y < 0 := fun z => by exact absurd (Int64.lt_trans h (h2.mp z)) Int64.lt_irrefl
    exact Int32.lt_of_le_of_ne (Int32.not_lt.mp a2) (fun z => a1 z.symm)
