/-! pure facts: the first tick, both ways -/
theorem mx_iff {a b z : Int64} : mx a b ≤ z ↔ a ≤ z ∧ b ≤ z := by
  unfold mx
  split
  · rename_i h
    exact ⟨fun q => ⟨q, ll_trans (Int64.le_of_lt h) q⟩, fun q => q.1⟩
  · rename_i h
    exact ⟨fun q => ⟨ll_trans (Int64.not_lt.mp h) q, q⟩, fun q => q.2⟩
theorem ub_ext {s t : Int64} (h : ∀ y, s ≤ y ↔ t ≤ y) : s = t := Int64.le_antisymm ((h t).mpr (Int64.le_refl _)) ((h s).mp (Int64.le_refl _))
theorem mx_assoc {a b c : Int64} : mx (mx a b) c = mx a (mx b c) := ub_ext (fun y => by rw [mx_iff, mx_iff, mx_iff, mx_iff]; exact ⟨fun q => ⟨q.1.1, q.1.2, q.2⟩, fun q => ⟨⟨q.1, q.2.1⟩, q.2.2⟩⟩)
theorem le_mx {a b : Int64} : a ≤ mx a b ∧ b ≤ mx a b := mx_iff.mp (Int64.le_refl _)
theorem mx_eq {a b : Int64} : mx a b = a ↔ b ≤ a := ⟨fun h => by have := (le_mx (a := a) (b := b)).2; rw [h] at this; exact this, mx_le⟩
theorem mn_iff {a b z : Int64} : z ≤ mn a b ↔ z ≤ a ∧ z ≤ b := by
  unfold mn
  split
  · rename_i h
    exact ⟨fun q => ⟨ll_trans q (Int64.le_of_lt h), q⟩, fun q => q.2⟩
  · rename_i h
    exact ⟨fun q => ⟨q, ll_trans q (Int64.not_lt.mp h)⟩, fun q => q.1⟩
theorem mn_le {a b : Int64} : mn a b ≤ a ∧ mn a b ≤ b := mn_iff.mp (Int64.le_refl _)
theorem blE_ge {e : tkD} {T : Nat → Int32} {m : Nat} : ∀ n b a r, blE e T m n b a = some r → a ≤ r := by
  intro n
  induction n with
  | zero => intro b a r h; cases h; exact Int64.le_refl _
  | succ n ih =>
    intro b a r h
    unfold blE at h
    split at h
    · exact ih _ _ _ h
    · split at h
      · split at h
        · cases h
        · exact ih _ _ _ h
      · exact ll_trans le_mx.1 (ih _ _ _ h)
theorem blW_acc {S : tkS} {v : tkD} {T : Nat → Int32} {m : Nat} : ∀ n g a b, blW S v T m n g (mx a b) = (blW S v T m n g b).map (mx a) := by
  intro n
  induction n with
  | zero => intro g a b; rfl
  | succ n ih =>
    intro g a b
    unfold blW
    split
    · exact ih _ _ _
    · split
      · rfl
      · rw [mx_assoc]; exact ih _ _ _
theorem htO_eq {S : tkS} {e v : tkD} {T : Nat → Int32} {m : Nat} : (htO S e v T m = none ∧ (blE e T m (sM S) 0 0 = none ∨ blW S v T m (sG S) 0 0 = none)) ∨ ∃ a b, blE e T m (sM S) 0 0 = some a ∧ blW S v T m (sG S) 0 0 = some b ∧ htO S e v T m = some (mx a b) := by
  unfold htO
  cases h : blE e T m (sM S) 0 0 with
  | none => exact Or.inl ⟨rfl, Or.inl rfl⟩
  | some a =>
    have ha := blE_ge _ _ _ _ h
    show (blW S v T m (sG S) 0 a = none ∧ _) ∨ _
    have e1 : blW S v T m (sG S) 0 a = (blW S v T m (sG S) 0 0).map (mx a) := by
      rw [← blW_acc, mx_le ha]
    cases h2 : blW S v T m (sG S) 0 0 with
    | none => rw [h2] at e1; exact Or.inl ⟨e1, Or.inr rfl⟩
    | some b => rw [h2] at e1; exact Or.inr ⟨a, b, rfl, rfl, e1⟩
theorem laF_le {e : tkD} {T : Nat → Int32} {m : Nat} : ∀ n b a, laF e T m n b a ≤ a := by
  intro n
  induction n with
  | zero => intro b a; exact Int64.le_refl _
  | succ n ih =>
    intro b a
    unfold laF
    split
    · exact ih _ _
    · exact ll_trans (ih _ _) mn_le.1
theorem t_far (t : Int32) : t.toInt64 < 4611686018427387904 := by
  rw [Int64.lt_iff_toInt_lt, i64_toInt]
  have h := Int32.toInt_lt t
  have : (4611686018427387904 : Int64).toInt = 4611686018427387904 := by decide
  omega
theorem ft_none {S : tkS} {e v : tkD} {T : Nat → Int32} {t : Int32} {m : Nat} (h : htO S e v T m = none) : ftF S e v T t m = 4611686018427387904 := by
  have hge : (4611686018427387904 : Int64) ≤ ftE S e v T t m := by
    rcases htO_eq (S := S) (e := e) (v := v) (T := T) (m := m) with ⟨_, q | q⟩ | ⟨a, b, _, _, q⟩
    · unfold ftE; rw [q]; exact ll_trans le_mx.1 le_mx.2
    · unfold ftE; rw [q]; exact ll_trans le_mx.2 le_mx.2
    · rw [q] at h; cases h
  unfold ftF
  split
  · rename_i q
    exact Int64.le_antisymm (ll_trans q (laF_le _ _ _)) hge
  · rfl
theorem ft_some {S : tkS} {e v : tkD} {T : Nat → Int32} {t : Int32} {m : Nat} {E : Int64} (h : htO S e v T m = some E) : ftE S e v T t m = mx t.toInt64 E := by
  rcases htO_eq (S := S) (e := e) (v := v) (T := T) (m := m) with ⟨q, _⟩ | ⟨a, b, q1, q2, q3⟩
  · rw [h] at q; cases q
  · unfold ftE
    rw [q1, q2]
    rw [h] at q3
    cases q3
    rfl
/-- whether m may come now, as the reference finds it -/
theorem can_eq {S : tkS} {e v : tkD} {T : Nat → Int32} {t : Int32} {m : Nat} {E : Int64} (h : htO S e v T m = some E) : ftF S e v T t m = t.toInt64 ↔ E ≤ t.toInt64 ∧ t.toInt64 ≤ laF e T m (sM S) 0 4611686018427387904 := by
  unfold ftF
  rw [ft_some h]
  constructor
  · intro q
    split at q
    · rename_i z
      rw [q] at z
      exact ⟨mx_eq.mp q, z⟩
    · have := t_far t
      rw [← q] at this
      exact absurd this Int64.lt_irrefl
  · rintro ⟨q1, q2⟩
    rw [mx_le q1, if_pos q2]
/-- how many below n have not come -/
def ncF (T : Nat → Int32) : Nat → Nat
  | 0 => 0
  | n + 1 => if T n = -9 then ncF T n + 1 else ncF T n
theorem ncF_le {T : Nat → Int32} : ∀ n, ncF T n ≤ n := by
  intro n
  induction n with
  | zero => exact Nat.le_refl _
  | succ n ih => unfold ncF; split <;> omega
theorem ncF_u0 {T : Nat → Int32} {m : Nat} {t : Int32} : ∀ n, n ≤ m → ncF (tk_u1 T m t) n = ncF T n := by
  intro n
  induction n with
  | zero => intro _; rfl
  | succ n ih =>
    intro h
    unfold ncF
    rw [tk_u1_ne (by omega), ih (by omega)]
theorem ncF_u {T : Nat → Int32} {m : Nat} {t : Int32} (hm : T m = -9) (ht : ¬ t = -9) : ∀ n, m < n → ncF (tk_u1 T m t) n + 1 = ncF T n := by
  intro n
  induction n with
  | zero => intro h; omega
  | succ n ih =>
    intro h
    unfold ncF
    by_cases q : n = m
    · subst q
      rw [tk_u1_same, if_neg ht, if_pos hm, ncF_u0 n (Nat.le_refl _)]
    · have := ih (by omega)
      rw [tk_u1_ne q]
      split <;> omega
theorem ncF_pos {T : Nat → Int32} {m : Nat} (hm : T m = -9) : ∀ n, m < n → 0 < ncF T n := by
  intro n
  induction n with
  | zero => intro h; omega
  | succ n ih =>
    intro h
    unfold ncF
    by_cases q : n = m
    · subst q; rw [if_pos hm]; omega
    · have := ih (by omega)
      split <;> omega
theorem lcF_can {S : tkS} {e v : tkD} {T : Nat → Int32} {t : Int32} : ∀ n m k, lcF S e v T t n m = some k → canC S e v T t k := by
  intro n
  induction n with
  | zero => intro m k h; cases h
  | succ n ih =>
    intro m k h
    unfold lcF at h
    split at h
    · rename_i q; cases h; exact q
    · exact ih (m + 1) k h
theorem goF_nc {S : tkS} {e v : tkD} {t : Int32} (ht : ¬ t = -9) : ∀ f T, ncF (goF S e v t f T).2 (sM S) + (goF S e v t f T).1 = ncF T (sM S) := by
  intro f
  induction f with
  | zero => intro T; rfl
  | succ f ih =>
    intro T
    unfold goF
    cases h : lcF S e v T t (sM S) 0 with
    | none => rfl
    | some m =>
      have h1 := ih (tk_u1 T m t)
      have h2 := ncF_u (lcF_can _ _ _ h).1.1 ht (sM S) (by have := lcF_lt _ _ _ h; omega)
      dsimp only
      omega
theorem goF_ok {S : tkS} {e v : tkD} {t : Int32} : ∀ f T j, (goF S e v t f T).2 j = T j ∨ (goF S e v t f T).2 j = t := by
  intro f
  induction f with
  | zero => intro T j; exact Or.inl rfl
  | succ f ih =>
    intro T j
    unfold goF
    cases h : lcF S e v T t (sM S) 0 with
    | none => exact Or.inl rfl
    | some m =>
      dsimp only
      rcases ih (tk_u1 T m t) j with q | q
      · by_cases z : j = m
        · subst z; rw [tk_u1_same] at q; exact Or.inr q
        · rw [tk_u1_ne z] at q; exact Or.inl q
      · exact Or.inr q
