/-! the rounds, in numbers -/
def RunP (S : tkS) : Nat → Int32 → tkD → tkD → Prop
  | 0, x, e, v => x = 0 ∧ e = linkM S (sL S) ∧ v = bdM S (sG S)
  | k + 1, x, e, v => ∃ e1 v1, RunP S k 0 e1 v1 ∧ RdP S e1 v1 x e v
def WkP (S : tkS) (x : Int32) (k : Nat) (e v : tkD) : Prop := RunP S k x e v ∧ k ≤ 400 ∧ (¬ x = 0 ∨ k = 400)
/-- what Waits holds once it knows: X its fields, N its rows -/
def KnS (S : tkS) (X : Nat → Nat → Int32) (N : Nat → Nat → Int64) : Prop := ∃ x k e v, WkP S x k e v ∧ X 0 7 = (if x = 1 then 1 else 0) ∧ X 0 8 = nI k ∧ RowP 16 (N 1) e ∧ WRow (N 4) v
