/-! the reference's tables, in numbers -/
def mvM (d : tkD) (a k : Nat) : Nat → tkD
  | 0 => d
  | b + 1 => if mvM d a k b a k = 4611686018427387904 then mvM d a k b else if mvM d a k b k b = 4611686018427387904 then mvM d a k b else lowM (mvM d a k b) a b (mvM d a k b a k + mvM d a k b k b)
def mwM (d : tkD) (k n : Nat) : Nat → tkD
  | 0 => d
  | a + 1 => mvM (mwM d k n a) a k n
def mcM (d : tkD) (n : Nat) : Nat → tkD
  | 0 => d
  | k + 1 => mwM (mcM d n k) k n n
def mcF (d : tkD) (n : Nat) : Bool × tkD := (!negF (mcM d n n) n 0, mcM d n n)
theorem mvM_stay {d : tkD} {a k b : Nat} (h : mvM d a k b a k = 4611686018427387904) : ∀ m, mvM d a k (b + m) = mvM d a k b := by
  intro m
  induction m with
  | zero => rfl
  | succ m ih =>
    have e : mvM d a k (b + m + 1) = mvM d a k (b + m) := if_pos (by rw [ih]; exact h)
    rw [show b + (m + 1) = b + m + 1 from rfl, e]
    exact ih
def mlA (S : tkS) (k : Int32) (l : Nat) : Int32 := if (0 ≤ k ∧ 0 ≤ sgn S l) ∧ ¬ (k >>> (sgn S l &&& 31)) &&& 1 = 1 then slo S l else shi S l
def mlB (S : tkS) (k : Int32) (l : Nat) : Int32 := if (0 ≤ k ∧ 0 ≤ sgn S l) ∧ (k >>> (sgn S l &&& 31)) &&& 1 = 1 then -shi S l else -slo S l
def mlM (S : tkS) (k : Int32) : Nat → tkD
  | 0 => d0M
  | l + 1 => lowM (lowM (mlM S k l) (sf S l) (se S l) (mlA S k l).toInt64) (se S l) (sf S l) (mlB S k l).toInt64
def mtog (S : tkS) (k : Int32) : Bool × tkD := mcF (mlM S k (sL S)) (sM S)
def mskF (S : tkS) : Nat → Nat → Int32
  | 0, _ => -1
  | n + 1, k => if (mtog S (nI k)).1 = true then mskF S n (k + 1) else nI k
def mspo (S : tkS) : Int32 := mskF S (2 ^ sG S) 0
def mstM (S : tkS) : Nat → tkD
  | 0 => d0M
  | l + 1 => if sgn S l < 0 then lowM (lowM (mstM S l) (rtF S 6 (sf S l)) (rtF S 6 (se S l)) ((shi S l).toInt64 - (slS S (gbF S 6 (se S l) 0 &&& (gbF S 6 (sf S l) 0 ^^^ -1)) 63 (sG S) - slS S (gbF S 6 (sf S l) 0 &&& (gbF S 6 (se S l) 0 ^^^ -1)) 0 (sG S))))
    (rtF S 6 (se S l)) (rtF S 6 (sf S l)) (slS S (gbF S 6 (se S l) 0 &&& (gbF S 6 (sf S l) 0 ^^^ -1)) 0 (sG S) - slS S (gbF S 6 (sf S l) 0 &&& (gbF S 6 (se S l) 0 ^^^ -1)) 63 (sG S) - (slo S l).toInt64) else mstM S l
def mstr (S : tkS) : Bool × tkD := mcF (mstM S (sL S)) (sM S)
theorem low1' {r : Nat → Int64} {c : Nat} {x : Int64} : tk_u1 r c (if x < r c then x else r c) = low1 r c x := by
  unfold low1
  split
  · rfl
  · exact tk_u1_id
def cwP (n a b : Nat) (r : Nat → Int64) : Prop := ∀ i j, j < n → (i < a ∨ (i = a ∧ j < b)) → r (16 * i + j) = d0M i j
theorem cwP_s {n a b : Nat} {r : Nat → Int64} (hn : n ≤ 16) (hb : b < n) (h : cwP n a b r) {x : Int64} (hx : x = d0M a b) : cwP n a (b + 1) (tk_u1 r (16 * a + b) x) := by
  intro i j hj hij
  by_cases e : i = a ∧ j = b
  · obtain ⟨rfl, rfl⟩ := e
    rw [tk_u1_same]; exact hx
  · rw [tk_u1_ne (by omega)]
    exact h i j hj (by omega)
theorem rtF_up {S : tkS} : ∀ n t, up S (n + 1) t = none → rtF S (n + 1) t = rtF S n t := by
  intro n
  induction n with
  | zero =>
    intro t h
    unfold up at h
    split at h
    · cases h
    · rename_i q
      show (if gt S t < sG S then _ else t) = t
      rw [if_neg q]
  | succ n ih =>
    intro t h
    by_cases q : gt S t < sG S
    · rw [show up S (n + 1 + 1) t = up S (n + 1) (sf S (sgl S (gt S t))) from if_pos q] at h
      rw [show rtF S (n + 1 + 1) t = rtF S (n + 1) (sf S (sgl S (gt S t))) from if_pos q, show rtF S (n + 1) t = rtF S n (sf S (sgl S (gt S t))) from if_pos q]
      exact ih _ h
    · rw [show rtF S (n + 1 + 1) t = t from if_neg q, show rtF S (n + 1) t = t from if_neg q]
theorem gbF_up {S : tkS} : ∀ n t acc, up S (n + 1) t = none → gbF S (n + 1) t acc = gbF S n t acc := by
  intro n
  induction n with
  | zero =>
    intro t acc h
    unfold up at h
    split at h
    · cases h
    · rename_i q
      show (if gt S t < sG S then _ else acc) = acc
      rw [if_neg q]
  | succ n ih =>
    intro t acc h
    by_cases q : gt S t < sG S
    · rw [show up S (n + 1 + 1) t = up S (n + 1) (sf S (sgl S (gt S t))) from if_pos q] at h
      rw [show gbF S (n + 1 + 1) t acc = gbF S (n + 1) (sf S (sgl S (gt S t))) (acc ||| (1 <<< (nI (gt S t) &&& 31))) from if_pos q, show gbF S (n + 1) t acc = gbF S n (sf S (sgl S (gt S t))) (acc ||| (1 <<< (nI (gt S t) &&& 31))) from if_pos q]
      exact ih _ _ h
    · rw [show gbF S (n + 1 + 1) t acc = acc from if_neg q, show gbF S (n + 1) t acc = acc from if_neg q]
theorem ch63 : ∀ g, g < 6 → ((63 : Int32) >>> (nI g &&& 31)) &&& 1 = 1 := by decide
theorem ch0 : ∀ g, g < 6 → ¬ ((0 : Int32) >>> (nI g &&& 31)) &&& 1 = 1 := by decide
theorem and1 (y : Int32) : y &&& 1 = 0 ∨ y &&& 1 = 1 := by
  obtain ⟨j, hj, e⟩ := pk_andE y (m := 1) 1 (by decide)
  rcases (show j = 0 ∨ j = 1 by omega) with rfl | rfl
  · left; exact e
  · right; exact e
def mRoot (X Y : Nat → Nat → Int32) : Prop := ∀ s k, ¬ (s = 0 ∧ (k = 21 ∨ k = 22)) → Y s k = X s k
theorem mRoot.net {X Y : Nat → Nat → Int32} {S : tkS} (h : mRoot X Y) (hP : NetP X S) : NetP Y S := NetP_to hP (fun k hk => h 0 k (by omega)) (fun s h4 h9 => funext fun k => h s k (by omega))
theorem mRoot.u {X Y : Nat → Nat → Int32} {k : Nat} {x : Int32} (h : mRoot X Y) (hk : k = 21 ∨ k = 22) : mRoot X (tk_u2 Y 0 k x) := fun s j hj => by
  rw [tk_u2_0 (by omega)]
  exact h s j hj
theorem mRoot.trans {X Y Z : Nat → Nat → Int32} (h : mRoot X Y) (h2 : mRoot Y Z) : mRoot X Z := fun s k hk => (h2 s k hk).trans (h s k hk)
