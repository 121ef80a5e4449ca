/-! the least wait, as the reference sums it -/
theorem lwF_le {e v : tkD} {a g : Nat} : ∀ b, lwF e v a g b ≤ 4611686018427387904 := by
  intro b
  induction b with
  | zero => exact Int64.le_refl _
  | succ b ih =>
    unfold lwF
    split
    · split
      · rename_i h
        exact Int64.le_trans (Int64.le_of_lt h) ih
      · exact ih
    · exact ih
theorem lwF_sum {e v : tkD} {a g c : Nat} : (if sumF (e a c) (v c g) < lwF e v a g c then sumF (e a c) (v c g) else lwF e v a g c) = lwF e v a g (c + 1) := by
  by_cases h : e a c = 4611686018427387904 ∨ v c g = 4611686018427387904
  · rw [show sumF (e a c) (v c g) = 4611686018427387904 from if_pos h, if_neg (Int64.not_lt.mpr (lwF_le c))]
    exact (if_neg (fun q => h.elim q.1 q.2)).symm
  · rw [show sumF (e a c) (v c g) = e a c + v c g from if_neg h]
    exact (if_pos ⟨fun q => h (Or.inl q), fun q => h (Or.inr q)⟩).symm
