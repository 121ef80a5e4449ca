/-! tables of steps, as numbers by two places -/
abbrev tkD : Type := Nat → Nat → Int64
def upM (d : tkD) (a b : Nat) (x : Int64) : tkD := fun i j => if i = a ∧ j = b then x else d i j
def lowM (d : tkD) (a b : Nat) (x : Int64) : tkD := if x < d a b then upM d a b x else d
def low1 (r : Nat → Int64) (c : Nat) (x : Int64) : Nat → Int64 := if x < r c then tk_u1 r c x else r
def RowP (n : Nat) (r : Nat → Int64) (d : tkD) : Prop := ∀ a b, a < n → b < n → r (16 * a + b) = d a b
def fillR {α : Type} (r : Nat → α) (i : Nat) (x : α) : Nat → α := fun j => if j < i then x else r j
def d0M : tkD := fun a b => if a = b then 0 else 4611686018427387904
theorem fillR_s {α : Type} {r : Nat → α} {i : Nat} {x : α} : tk_u1 (fillR r i x) i x = fillR r (i + 1) x := by
  funext j
  unfold tk_u1 fillR
  by_cases h : j = i
  · subst h; rw [if_pos rfl, if_pos (by omega)]
  · rw [if_neg h]
    by_cases h2 : j < i
    · rw [if_pos h2, if_pos (by omega)]
    · rw [if_neg h2, if_neg (by omega)]
theorem fillR_0 {α : Type} {r : Nat → α} {x : α} : fillR r 0 x = r := by
  funext j
  unfold fillR
  rw [if_neg (by omega)]
theorem tk_u1_id {α : Type} {f : Nat → α} {k : Nat} : tk_u1 f k (f k) = f := by
  funext j
  by_cases h : j = k
  · subst h; rw [tk_u1_same]
  · rw [tk_u1_ne h]
theorem tk_u2_u1 {α : Type} {N : Nat → Nat → α} {s k : Nat} {r : Nat → α} {x : α} : tk_u2 (tk_u1 N s r) s k x = tk_u1 N s (tk_u1 r k x) := by
  funext j
  by_cases h : j = s
  · subst h; rw [tk_u2_at, tk_u1_same, tk_u1_same]
  · rw [tk_u2_ne h, tk_u1_ne h, tk_u1_ne h]
theorem tk_u1_u1 {α : Type} {N : Nat → α} {s : Nat} {r r' : α} : tk_u1 (tk_u1 N s r) s r' = tk_u1 N s r' := by
  funext j
  by_cases h : j = s
  · subst h; rw [tk_u1_same, tk_u1_same]
  · rw [tk_u1_ne h, tk_u1_ne h, tk_u1_ne h]
theorem RowP.put {n : Nat} {r : Nat → Int64} {d : tkD} (h : RowP n r d) (hn : n ≤ 16) {a b : Nat} (hb : b < 16) {x : Int64} : RowP n (tk_u1 r (16 * a + b) x) (upM d a b x) := by
  intro i j hi hj
  unfold upM
  by_cases e : i = a ∧ j = b
  · obtain ⟨rfl, rfl⟩ := e
    rw [tk_u1_same, if_pos ⟨rfl, rfl⟩]
  · rw [tk_u1_ne (by omega), if_neg e]
    exact h i j hi hj
theorem RowP.low {n : Nat} {r : Nat → Int64} {d : tkD} (h : RowP n r d) (hn : n ≤ 16) {a b : Nat} (ha : a < n) (hb : b < n) {x : Int64} : RowP n (low1 r (16 * a + b) x) (lowM d a b x) := by
  unfold low1 lowM
  rw [h a b ha hb]
  split
  · exact h.put hn (by omega)
  · exact h
theorem RowP.mono {n m : Nat} {r : Nat → Int64} {d : tkD} (h : RowP n r d) (hm : m ≤ n) : RowP m r d := fun a b ha hb => h a b (by omega) (by omega)
theorem ix16 {a b : Nat} : nI a * 16 + nI b = nI (16 * a + b) := by
  rw [show (16 : Int32) = nI 16 from rfl, pk_mul, nI_add, Nat.mul_comm]
theorem ix16' {a b : Nat} : 16 * nI a + nI b = nI (16 * a + b) := by
  rw [show (16 : Int32) = nI 16 from rfl, pk_mul, nI_add]
theorem ix17 {a : Nat} : 17 * nI a = nI (16 * a + a) := by
  rw [show (17 : Int32) = nI 17 from rfl, pk_mul]
  congr 1
  omega
theorem RowP.at {n : Nat} {r : Nat → Int64} {d : tkD} (h : RowP n r d) (hn : n ≤ 16) {a b : Nat} (ha : a < n) (hb : b < n) : r (nI (16 * a + b)).toNatClampNeg = d a b := by
  rw [nI_clamp (by omega)]
  exact h a b ha hb
/-- the lows and highs of the first l links -/
def linkM (S : tkS) : Nat → tkD
  | 0 => d0M
  | l + 1 => lowM (lowM (linkM S l) (sf S l) (se S l) (shi S l).toInt64) (se S l) (sf S l) (-(slo S l).toInt64)
def negF (d : tkD) : Nat → Nat → Bool
  | 0, _ => false
  | k + 1, m => if d m m < 0 then true else negF d k (m + 1)
def rvM (d : tkD) (a k : Nat) (F : Int64) : Nat → tkD
  | 0 => d
  | b + 1 => if F ≠ 4611686018427387904 ∧ rvM d a k F b k b ≠ 4611686018427387904 ∧ F + rvM d a k F b k b < rvM d a k F b a b then upM (rvM d a k F b) a b (F + rvM d a k F b k b) else rvM d a k F b
def viM (d : tkD) (k n : Nat) : Nat → tkD
  | 0 => d
  | a + 1 => rvM (viM d k n a) a k (viM d k n a a k) n
/-- the closing of the class: m tables more from via on -/
def clL (n : Nat) : Nat → Nat → tkD → Bool × tkD
  | 0, _, d => (true, d)
  | m + 1, via, d => if negF (viM d via n n) n 0 = true then (false, viM d via n n) else clL n m (via + 1) (viM d via n n)
def clF (d : tkD) (n : Nat) : Bool × tkD := if negF d n 0 = true then (false, d) else clL n n 0 d
theorem jr_same {α : Type} {J : Nat → Nat → α} {N : α} {ci : Nat} : tk_so (tk_so J ci 0 N) ci 0 = tk_so J ci 0 := by funext N'; exact tk_so_so
theorem jr_id {α : Type} {J : Nat → Nat → Nat → α} {ci s : Nat} : tk_so J ci 0 (tk_u1 (J ci 0) s (J ci 0 s)) = J := by rw [tk_u1_id, tk_so_id]
