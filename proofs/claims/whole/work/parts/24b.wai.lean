/-! waits, in numbers: rows of delays stand at 6 * a + g -/
def WRow (r : Nat → Int64) (v : tkD) : Prop := ∀ a g, a < 16 → g < 6 → r (6 * a + g) = v a g
def dpF (r : Nat → Int64) : Nat → Nat → Bool
  | 0, _ => false
  | n + 1, j => if r j < -1000000000000 then true else dpF r n (j + 1)
def smF (r q : Nat → Int64) : Nat → Nat → Bool
  | 0, _ => true
  | n + 1, j => if r j = q j then smF r q n (j + 1) else false
def bdM (S : tkS) : Nat → tkD
  | 0 => fun _ _ => 4611686018427387904
  | g + 1 => upM (bdM S g) (se S (sgl S g)) g (-shi S (sgl S g)).toInt64
def lwF (e v : tkD) (a g : Nat) : Nat → Int64
  | 0 => 4611686018427387904
  | b + 1 => if e a b ≠ 4611686018427387904 ∧ v b g ≠ 4611686018427387904 then (if e a b + v b g < lwF e v a g b then e a b + v b g else lwF e v a g b) else lwF e v a g b
theorem ix6 {a g : Nat} : nI a * 6 + nI g = nI (6 * a + g) := by
  rw [show (6 : Int32) = nI 6 from rfl, pk_mul, nI_add, Nat.mul_comm]
theorem ix6' {a g : Nat} : 6 * nI a + nI g = nI (6 * a + g) := by
  rw [show (6 : Int32) = nI 6 from rfl, pk_mul, nI_add]
theorem WRow.at {r : Nat → Int64} {v : tkD} (h : WRow r v) {a g : Nat} (ha : a < 16) (hg : g < 6) : r (nI (6 * a + g)).toNatClampNeg = v a g := by
  rw [nI_clamp (by omega)]
  exact h a g ha hg
theorem WRow.put {r : Nat → Int64} {v : tkD} (h : WRow r v) {a g : Nat} (hg : g < 6) {x : Int64} : WRow (tk_u1 r (6 * a + g) x) (upM v a g x) := by
  intro i j hi hj
  unfold upM
  by_cases q : i = a ∧ j = g
  · obtain ⟨rfl, rfl⟩ := q
    rw [tk_u1_same, if_pos ⟨rfl, rfl⟩]
  · rw [tk_u1_ne (by omega), if_neg q]
    exact h i j hi hj
def caM (e v : tkD) (n G a0 g0 : Nat) : tkD := fun a g => if (a < n ∧ g < G) ∧ (a < a0 ∨ (a = a0 ∧ g < g0)) then lwF e v a g n else v a g
theorem caM_s {e v : tkD} {n G a0 g0 : Nat} (ha : a0 < n) (hg : g0 < G) : upM (caM e v n G a0 g0) a0 g0 (lwF e v a0 g0 n) = caM e v n G a0 (g0 + 1) := by
  funext a g
  unfold upM caM
  by_cases q : a = a0 ∧ g = g0
  · obtain ⟨rfl, rfl⟩ := q
    rw [if_pos ⟨rfl, rfl⟩, if_pos ⟨⟨ha, hg⟩, Or.inr ⟨rfl, by omega⟩⟩]
  · rw [if_neg q]
    by_cases z : (a < n ∧ g < G) ∧ (a < a0 ∨ (a = a0 ∧ g < g0))
    · rw [if_pos z, if_pos ⟨z.1, by omega⟩]
    · rw [if_neg z, if_neg (fun y => z ⟨y.1, by omega⟩)]
theorem caM_n {e v : tkD} {n G a0 : Nat} : caM e v n G a0 G = caM e v n G (a0 + 1) 0 := by
  funext a g
  unfold caM
  by_cases z : (a < n ∧ g < G) ∧ (a < a0 ∨ (a = a0 ∧ g < G))
  · rw [if_pos z, if_pos ⟨z.1, by omega⟩]
  · rw [if_neg z, if_neg (fun y => z ⟨y.1, by omega⟩)]
theorem caM_0 {e v : tkD} {n G : Nat} : caM e v n G 0 0 = v := by
  funext a g
  unfold caM
  rw [if_neg (fun y => by omega)]
def tsI (S : tkS) (v : tkD) (g : Nat) (e : tkD) : Nat → tkD
  | 0 => e
  | a + 1 => if a ≠ se S (sgl S g) ∧ v a g ≠ 4611686018427387904 ∧ (-slo S (sgl S g)).toInt64 ≤ v a g then lowM (tsI S v g e a) a (sf S (sgl S g)) (v a g) else tsI S v g e a
def tsO (S : tkS) (v e : tkD) (n : Nat) : Nat → tkD
  | 0 => e
  | g + 1 => tsI S v g (tsO S v e n g) n
def ceI (S : tkS) (q : tkD) (g : Nat) (e : tkD) : Nat → tkD
  | 0 => e
  | b + 1 => if q (se S (sgl S g)) b < 0 then lowM (ceI S q g e b) (sf S (sgl S g)) b ((slo S (sgl S g)).toInt64 + q (se S (sgl S g)) b) else ceI S q g e b
def ceO (S : tkS) (q e : tkD) (n : Nat) : Nat → tkD
  | 0 => e
  | g + 1 => ceI S q g (ceO S q e n g) n
def cgI (S : tkS) (u : tkD) (g : Nat) (v : tkD) : Nat → tkD
  | 0 => v
  | h + 1 => if h ≠ g ∧ u (se S (sgl S g)) h < 0 then upM (cgI S u g v h) (sf S (sgl S g)) h (if (slo S (sgl S g)).toInt64 + u (se S (sgl S g)) h < cgI S u g v h (sf S (sgl S g)) h then (slo S (sgl S g)).toInt64 + u (se S (sgl S g)) h else cgI S u g v h (sf S (sgl S g)) h) else cgI S u g v h
def cgO (S : tkS) (u v : tkD) (n : Nat) : Nat → tkD
  | 0 => v
  | g + 1 => cgI S u g (cgO S u v n g) n
def hrI (S : tkS) (v : tkD) (g : Nat) (e : tkD) : Nat → tkD
  | 0 => e
  | a + 1 => lowM (hrI S v g e a) a (sf S (sgl S g)) (v a g)
def hrO (S : tkS) (v e : tkD) (n : Nat) : Nat → tkD
  | 0 => e
  | g + 1 => hrI S v g (hrO S v e n g) n
theorem RowP.cp {r q : Nat → Int64} {d : tkD} (h : RowP 16 r d) (hq : ∀ j, j < 256 → q j = r j) : RowP 16 q d := fun a b ha hb => by rw [hq _ (by omega)]; exact h a b ha hb
theorem WRow.cp {r q : Nat → Int64} {d : tkD} (h : WRow r d) (hq : ∀ j, j < 96 → q j = r j) : WRow q d := fun a b ha hb => by rw [hq _ (by omega)]; exact h a b ha hb
