/-! a round, in numbers -/
def rowE (e : tkD) : Nat → Int64 := fun j => e (j / 16) (j % 16)
def rowW (v : tkD) : Nat → Int64 := fun j => v (j / 6) (j % 6)
theorem RowP.eq {r : Nat → Int64} {e : tkD} (h : RowP 16 r e) : ∀ j, j < 256 → r j = rowE e j := by
  intro j hj
  have := h (j / 16) (j % 16) (by omega) (by omega)
  rw [show 16 * (j / 16) + j % 16 = j by omega] at this
  exact this
theorem WRow.eq {r : Nat → Int64} {v : tkD} (h : WRow r v) : ∀ j, j < 96 → r j = rowW v j := by
  intro j hj
  have := h (j / 6) (j % 6) (by omega) (by omega)
  rw [show 6 * (j / 6) + j % 6 = j by omega] at this
  exact this
theorem dpF_eq {r q : Nat → Int64} : ∀ n j, (∀ i, j ≤ i → i < j + n → r i = q i) → dpF r n j = dpF q n j := by
  intro n
  induction n with
  | zero => intro j _; rfl
  | succ n ih =>
    intro j h
    unfold dpF
    rw [h j (by omega) (by omega), ih (j + 1) (fun i h1 h2 => h i (by omega) (by omega))]
theorem smF_eq {r q r' q' : Nat → Int64} : ∀ n j, (∀ i, j ≤ i → i < j + n → r i = r' i ∧ q i = q' i) → smF r q n j = smF r' q' n j := by
  intro n
  induction n with
  | zero => intro j _; rfl
  | succ n ih =>
    intro j h
    unfold smF
    rw [(h j (by omega) (by omega)).1, (h j (by omega) (by omega)).2, ih (j + 1) (fun i h1 h2 => h i (by omega) (by omega))]
def rdC (S : tkS) (e : tkD) : Bool × tkD := clF e (sM S)
def rdV1 (S : tkS) (e v : tkD) : tkD := caM (rdC S e).2 v (sM S) (sG S) (sM S) 0
def rdE2 (S : tkS) (e v : tkD) : tkD := tsO S (rdV1 S e v) (rdC S e).2 (sM S) (sG S)
def rdE3 (S : tkS) (e v : tkD) : tkD := ceO S (rdE2 S e v) (rdE2 S e v) (sM S) (sG S)
def rdV2 (S : tkS) (e v : tkD) : tkD := cgO S (rdV1 S e v) (rdV1 S e v) (sG S) (sG S)
def rdBad (S : tkS) (e v : tkD) : Prop := dpF (rowE (rdE3 S e v)) 256 0 = true ∨ dpF (rowW (rdV2 S e v)) 96 0 = true ∨ ¬ (clF (hrO S (rdV2 S e v) (rdE3 S e v) (sM S) (sG S)) (sM S)).1 = true
def rdSame (S : tkS) (e v : tkD) : Prop := smF (rowE (rdE3 S e v)) (rowE e) 256 0 = true ∧ smF (rowW (rdV2 S e v)) (rowW v) 96 0 = true
/-- how a round ends (0 goes on, 1 lively, 2 not), and with what -/
def RdP (S : tkS) (e v : tkD) (x : Int32) (e' v' : tkD) : Prop :=
  (¬ (rdC S e).1 = true ∧ x = 2 ∧ e' = (rdC S e).2 ∧ v' = v) ∨ ((rdC S e).1 = true ∧ e' = rdE3 S e v ∧ v' = rdV2 S e v ∧ ((rdBad S e v ∧ x = 2) ∨ (¬ rdBad S e v ∧ ((rdSame S e v ∧ x = 1) ∨ (¬ rdSame S e v ∧ x = 0)))))
