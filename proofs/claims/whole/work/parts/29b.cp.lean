/-! rows copied place by place -/
def cpR {α : Type} (r q : Nat → α) (i : Nat) : Nat → α := fun j => if j < i then r j else q j
theorem cpR_s {α : Type} {r q : Nat → α} {i : Nat} : tk_u1 (cpR r q i) i (r i) = cpR r q (i + 1) := by
  funext j
  unfold tk_u1 cpR
  by_cases h : j = i
  · subst h; rw [if_pos rfl, if_pos (by omega)]
  · rw [if_neg h]
    by_cases h2 : j < i
    · rw [if_pos h2, if_pos (by omega)]
    · rw [if_neg h2, if_neg (by omega)]
theorem cpR_0 {α : Type} {r q : Nat → α} : cpR r q 0 = q := by
  funext j
  unfold cpR
  rw [if_neg (by omega)]
def sumF (x y : Int64) : Int64 := if x = 4611686018427387904 ∨ y = 4611686018427387904 then 4611686018427387904 else x + y
theorem WRow.low {r : Nat → Int64} {v : tkD} (h : WRow r v) {a g : Nat} (ha : a < 16) (hg : g < 6) {x : Int64} : WRow (low1 r (6 * a + g) x) (lowM v a g x) := by
  unfold low1 lowM
  rw [h a g ha hg]
  split
  · exact h.put hg
  · exact h
