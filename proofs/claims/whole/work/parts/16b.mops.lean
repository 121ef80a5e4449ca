/-! the reference's net: what else its object holds -/
def mOth (X Y : Nat → Nat → Int32) : Prop := (∀ k, 3 ≤ k → k ≠ 10 → k ≠ 11 → Y 0 k = X 0 k) ∧ ∀ s, 10 ≤ s → Y s = X s
def mFl (r : Int32) (X Y : Nat → Nat → Int32) : Prop := (r < 0 → Y 0 10 = X 0 10 ∧ Y 0 11 = X 0 11) ∧ (¬ r < 0 → Y 0 10 = 0 ∧ Y 0 11 = 0)
theorem mOth.rfl' {X : Nat → Nat → Int32} : mOth X X := ⟨fun _ _ _ _ => rfl, fun _ _ => rfl⟩
theorem le_pred {x : Int32} {n : Nat} (hn : n < 2 ^ 30) : x ≤ nI n - 1 ↔ x < nI n := by
  have h := pk_sub_toInt (a := n) (b := 1) hn (by decide)
  rw [show nI 1 = (1 : Int32) from rfl] at h
  rw [Int32.le_iff_toInt_le, Int32.lt_iff_toInt_lt, h, nI_toInt (by omega)]
  omega
theorem NetP_to {X Y : Nat → Nat → Int32} {S : tkS} (h : NetP X S) (h0 : ∀ k, k < 3 → Y 0 k = X 0 k) (hs : ∀ s, 4 ≤ s → s ≤ 9 → Y s = X s) : NetP Y S := by
  obtain ⟨h1, h2, h3, h4, h5⟩ := h
  refine ⟨by rw [h0 0 (by omega)]; exact h1, by rw [h0 1 (by omega)]; exact h2, by rw [h0 2 (by omega)]; exact h3, fun j hj => ?_, fun g hg => ?_⟩
  · rw [hs 4 (by omega) (by omega), hs 5 (by omega) (by omega), hs 6 (by omega) (by omega), hs 7 (by omega) (by omega), hs 8 (by omega) (by omega)]
    exact h4 j hj
  · rw [hs 9 (by omega) (by omega)]
    exact h5 g hg
/-- two fields of the reference changed that aren't the net's -/
theorem NetP_fl {X : Nat → Nat → Int32} {S : tkS} (h : NetP X S) : NetP (tk_u2 (tk_u2 X 0 10 0) 0 11 0) S :=
  NetP_to h (fun k hk => by rw [tk_u2_0 (by omega), tk_u2_0 (by omega)]) (fun s h4 h9 => by rw [tk_u2_ne (by omega), tk_u2_ne (by omega)])
theorem mOth_u {X Y : Nat → Nat → Int32} {s k : Nat} {x : Int32} (h : mOth X Y) (hs : (4 ≤ s ∧ s ≤ 9) ∨ (s = 0 ∧ (k < 3 ∨ k = 10 ∨ k = 11))) : mOth X (tk_u2 Y s k x) := by
  refine ⟨fun j h1 h2 h3 => ?_, fun r hr => ?_⟩
  · rw [tk_u2_0 (by omega)]; exact h.1 j h1 h2 h3
  · rw [tk_u2_ne (by omega)]; exact h.2 r hr
theorem up7 {S : tkS} (w : WF S) (t : Nat) : up S 7 t = none := by
  cases h : up S 7 t with
  | none => rfl
  | some k => have := up_le w h; have := w.2.2.1; omega
theorem nI_m1 {n : Nat} (h : n < 2 ^ 31) : ¬ nI n < 0 := nI_pos h
