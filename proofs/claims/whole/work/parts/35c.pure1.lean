/-! pure facts: the class's closing and the reference's -/
theorem ll_trans {a b c : Int64} (h : a ≤ b) (h2 : b ≤ c) : a ≤ c := Int64.le_trans h h2
theorem ll_lt {a b c : Int64} (h : a ≤ b) (h2 : b < c) : a < c := by
  rw [Int64.lt_iff_toInt_lt] at *
  rw [Int64.le_iff_toInt_le] at h
  omega
theorem lowM_le {d : tkD} {a b : Nat} {x : Int64} (i j : Nat) : lowM d a b x i j ≤ d i j := by
  unfold lowM
  split
  · rename_i h
    unfold upM
    split
    · rename_i q; obtain ⟨rfl, rfl⟩ := q; exact Int64.le_of_lt h
    · exact Int64.le_refl _
  · exact Int64.le_refl _
theorem mvM_le {d : tkD} {a k : Nat} (i j : Nat) : ∀ b, mvM d a k b i j ≤ d i j := by
  intro b
  induction b with
  | zero => exact Int64.le_refl _
  | succ b ih =>
    unfold mvM
    split
    · exact ih
    · split
      · exact ih
      · exact ll_trans (lowM_le i j) ih
theorem mwM_le {d : tkD} {k n : Nat} (i j : Nat) : ∀ a, mwM d k n a i j ≤ d i j := by
  intro a
  induction a with
  | zero => exact Int64.le_refl _
  | succ a ih => exact ll_trans (mvM_le i j n) ih
theorem mcM_le {d : tkD} {n : Nat} (i j k : Nat) : ∀ m, mcM d n (k + m) i j ≤ mcM d n k i j := by
  intro m
  induction m with
  | zero => exact Int64.le_refl _
  | succ m ih => exact ll_trans (mwM_le i j n) ih
theorem negF_iff {d : tkD} : ∀ k m, negF d k m = true ↔ ∃ j, m ≤ j ∧ j < m + k ∧ d j j < 0 := by
  intro k
  induction k with
  | zero =>
    intro m
    exact ⟨fun h => (by cases h), fun ⟨j, h1, h2, _⟩ => by omega⟩
  | succ k ih =>
    intro m
    unfold negF
    split
    · rename_i h
      exact ⟨fun _ => ⟨m, by omega, by omega, h⟩, fun _ => rfl⟩
    · rename_i h
      rw [ih (m + 1)]
      constructor
      · rintro ⟨j, h1, h2, h3⟩; exact ⟨j, by omega, by omega, h3⟩
      · rintro ⟨j, h1, h2, h3⟩
        by_cases z : j = m
        · subst z; exact absurd h3 h
        · exact ⟨j, by omega, by omega, h3⟩
theorem negF_mono {d d' : tkD} {n : Nat} (h : ∀ j, d' j j ≤ d j j) (hn : negF d n 0 = true) : negF d' n 0 = true := by
  rw [negF_iff] at *
  obtain ⟨j, h1, h2, h3⟩ := hn
  exact ⟨j, h1, h2, ll_lt (h j) h3⟩
theorem lowM_no {d : tkD} {a b : Nat} {x : Int64} (h : ¬ x < d a b) : lowM d a b x = d := if_neg h
theorem lowM_ne {d : tkD} {a b i j : Nat} {x : Int64} (h : ¬ (i = a ∧ j = b)) : lowM d a b x i j = d i j := by
  unfold lowM
  split
  · exact if_neg h
  · rfl
theorem rv_mv {d : tkD} {a k : Nat} (h0 : d k k = 0) : ∀ b, rvM d a k (d a k) b = mvM d a k b ∧ mvM d a k b a k = d a k ∧ mvM d a k b k k = 0 := by
  intro b
  induction b with
  | zero => exact ⟨rfl, rfl, h0⟩
  | succ b ih =>
    obtain ⟨h1, h2, h3⟩ := ih
    unfold rvM mvM
    rw [h1, h2]
    by_cases c1 : d a k = 4611686018427387904
    · rw [if_neg (fun z => z.1 c1), if_pos c1]
      exact ⟨rfl, h2, h3⟩
    · rw [if_neg c1]
      by_cases c2 : mvM d a k b k b = 4611686018427387904
      · rw [if_neg (fun z => z.2.1 c2), if_pos c2]
        exact ⟨rfl, h2, h3⟩
      · rw [if_neg c2]
        refine ⟨?_, ?_, ?_⟩
        · unfold lowM
          by_cases c3 : d a k + mvM d a k b k b < mvM d a k b a b
          · rw [if_pos c3, if_pos ⟨c1, c2, c3⟩]
          · rw [if_neg c3, if_neg (fun z => c3 z.2.2)]
        · by_cases e : b = k
          · subst e
            rw [lowM_no (by rw [h3, h2, Int64.add_zero]; exact Int64.lt_irrefl), h2]
          · rw [lowM_ne (by omega), h2]
        · by_cases e : k = a ∧ k = b
          · obtain ⟨rfl, rfl⟩ := e
            rw [lowM_no (by rw [h3, h0, Int64.add_zero]; exact Int64.lt_irrefl), h3]
          · rw [lowM_ne e, h3]
theorem vi_mw {d : tkD} {k n : Nat} (h0 : d k k = 0) : ∀ a, viM d k n a = mwM d k n a ∧ mwM d k n a k k = 0 := by
  intro a
  induction a with
  | zero => exact ⟨rfl, h0⟩
  | succ a ih =>
    obtain ⟨h1, h2⟩ := ih
    show rvM (viM d k n a) a k (viM d k n a a k) n = mvM (mwM d k n a) a k n ∧ mvM (mwM d k n a) a k n k k = 0
    rw [h1]
    have := rv_mv (a := a) h2 n
    exact ⟨this.1, this.2.2⟩
theorem negF_no {d : tkD} {n : Nat} (h : ¬ negF d n 0 = true) (hd : ∀ j, j < n → d j j ≤ 0) : ∀ j, j < n → d j j = 0 := by
  intro j hj
  rw [negF_iff] at h
  exact Int64.le_antisymm (hd j hj) (Int64.not_lt.mp (fun q => h ⟨j, by omega, by omega, q⟩))
theorem clL_mc {d : tkD} {n : Nat} (hd : ∀ j, j < n → d j j ≤ 0) : ∀ m via, via + m = n → ¬ negF (mcM d n via) n 0 = true → ((clL n m via (mcM d n via)).1 = true ∧ (clL n m via (mcM d n via)).2 = mcM d n n ∧ negF (mcM d n n) n 0 = false) ∨ ((clL n m via (mcM d n via)).1 = false ∧ negF (mcM d n n) n 0 = true) := by
  intro m
  induction m with
  | zero =>
    intro via hv hn
    have hv : via = n := by omega
    subst hv
    exact Or.inl ⟨rfl, rfl, by cases h : negF (mcM d via via) via 0 with | true => exact absurd h hn | false => rfl⟩
  | succ m ih =>
    intro via hv hn
    have hz := negF_no hn (fun j hj => by have := mcM_le (d := d) (n := n) j j 0 via; rw [Nat.zero_add] at this; exact ll_trans this (hd j hj)) via (by omega)
    have e : viM (mcM d n via) via n n = mcM d n (via + 1) := (vi_mw hz n).1
    unfold clL
    rw [e]
    by_cases c : negF (mcM d n (via + 1)) n 0 = true
    · rw [if_pos c]
      refine Or.inr ⟨rfl, negF_mono (fun j => ?_) c⟩
      have := mcM_le (d := d) (n := n) j j (via + 1) m
      rw [show via + 1 + m = n by omega] at this
      exact this
    · rw [if_neg c]
      exact ih (via + 1) (by omega) c
/-- both close alike -/
theorem cl_mc {d : tkD} {n : Nat} (hd : ∀ j, j < n → d j j ≤ 0) : (clF d n).1 = (mcF d n).1 ∧ ((clF d n).1 = true → (clF d n).2 = (mcF d n).2) := by
  unfold clF mcF
  dsimp only
  by_cases c : negF d n 0 = true
  · rw [if_pos c]
    have h : negF (mcM d n n) n 0 = true := negF_mono (fun j => by have := mcM_le (d := d) (n := n) j j 0 n; rw [Nat.zero_add] at this; exact this) c
    rw [h]
    exact ⟨rfl, fun z => by cases z⟩
  · rw [if_neg c]
    rcases clL_mc hd n 0 (Nat.zero_add n) c with ⟨h1, h2, h3⟩ | ⟨h1, h3⟩
    · rw [h3]; exact ⟨h1, fun _ => h2⟩
    · rw [h3]; exact ⟨h1, fun z => absurd (h1.symm.trans z) (by decide)⟩
/-! a table by what lies below it -/
theorem le_lowM {d : tkD} {a b i j : Nat} {x y : Int64} : y ≤ lowM d a b x i j ↔ y ≤ d i j ∧ (i = a ∧ j = b → y ≤ x) := by
  unfold lowM
  by_cases q : i = a ∧ j = b
  · obtain ⟨rfl, rfl⟩ := q
    split
    · rename_i h
      rw [show upM d i j x i j = x from if_pos ⟨rfl, rfl⟩]
      exact ⟨fun z => ⟨ll_trans z (Int64.le_of_lt h), fun _ => z⟩, fun z => z.2 ⟨rfl, rfl⟩⟩
    · rename_i h
      exact ⟨fun z => ⟨z, fun _ => ll_trans z (Int64.not_lt.mp h)⟩, fun z => z.1⟩
  · split
    · rw [show upM d a b x i j = d i j from if_neg q]
      exact ⟨fun z => ⟨z, fun w => absurd w q⟩, fun z => z.1⟩
    · exact ⟨fun z => ⟨z, fun w => absurd w q⟩, fun z => z.1⟩
theorem le_ext {s t : Int64} (h : ∀ y, y ≤ s ↔ y ≤ t) : s = t := Int64.le_antisymm ((h s).mp (Int64.le_refl _)) ((h t).mpr (Int64.le_refl _))
theorem le_linkM {S : tkS} {i j : Nat} {y : Int64} : ∀ l, y ≤ linkM S l i j ↔ y ≤ d0M i j ∧ ∀ q, q < l → (i = sf S q ∧ j = se S q → y ≤ (shi S q).toInt64) ∧ (i = se S q ∧ j = sf S q → y ≤ -(slo S q).toInt64) := by
  intro l
  induction l with
  | zero => exact ⟨fun h => ⟨h, fun q hq => absurd hq (Nat.not_lt_zero _)⟩, fun h => h.1⟩
  | succ l ih =>
    unfold linkM
    rw [le_lowM, le_lowM, ih]
    constructor
    · rintro ⟨⟨⟨h1, h2⟩, h3⟩, h4⟩
      refine ⟨h1, fun q hq => ?_⟩
      by_cases e : q = l
      · subst e; exact ⟨h3, h4⟩
      · exact h2 q (by omega)
    · rintro ⟨h1, h2⟩
      exact ⟨⟨⟨h1, fun q hq => h2 q (by omega)⟩, (h2 l (by omega)).1⟩, (h2 l (by omega)).2⟩
theorem le_mlM {S : tkS} {k : Int32} {i j : Nat} {y : Int64} : ∀ l, y ≤ mlM S k l i j ↔ y ≤ d0M i j ∧ ∀ q, q < l → (i = sf S q ∧ j = se S q → y ≤ (mlA S k q).toInt64) ∧ (i = se S q ∧ j = sf S q → y ≤ (mlB S k q).toInt64) := by
  intro l
  induction l with
  | zero => exact ⟨fun h => ⟨h, fun q hq => absurd hq (Nat.not_lt_zero _)⟩, fun h => h.1⟩
  | succ l ih =>
    unfold mlM
    rw [le_lowM, le_lowM, ih]
    constructor
    · rintro ⟨⟨⟨h1, h2⟩, h3⟩, h4⟩
      refine ⟨h1, fun q hq => ?_⟩
      by_cases e : q = l
      · subst e; exact ⟨h3, h4⟩
      · exact h2 q (by omega)
    · rintro ⟨h1, h2⟩
      exact ⟨⟨⟨h1, fun q hq => h2 q (by omega)⟩, (h2 l (by omega)).1⟩, (h2 l (by omega)).2⟩
theorem le_cbM {S : tkS} {k : Int32} {i j : Nat} {y : Int64} : ∀ l, y ≤ cbM S k l i j ↔ y ≤ linkM S (sL S) i j ∧ ∀ q, q < l → (i = sf S (sgl S q) ∧ j = se S (sgl S q) → y ≤ (chL S k q).toInt64) ∧ (i = se S (sgl S q) ∧ j = sf S (sgl S q) → y ≤ -(chL S k q).toInt64) := by
  intro l
  induction l with
  | zero => exact ⟨fun h => ⟨h, fun q hq => absurd hq (Nat.not_lt_zero _)⟩, fun h => h.1⟩
  | succ l ih =>
    unfold cbM
    rw [le_lowM, le_lowM, ih]
    constructor
    · rintro ⟨⟨⟨h1, h2⟩, h3⟩, h4⟩
      refine ⟨h1, fun q hq => ?_⟩
      by_cases e : q = l
      · subst e; exact ⟨h3, h4⟩
      · exact h2 q (by omega)
    · rintro ⟨h1, h2⟩
      exact ⟨⟨⟨h1, fun q hq => h2 q (by omega)⟩, (h2 l (by omega)).1⟩, (h2 l (by omega)).2⟩
theorem i64_toInt (x : Int32) : x.toInt64.toInt = x.toInt := by simp
theorem neg64 {x : Int32} (h : -100000 ≤ x.toInt) (h2 : x.toInt ≤ 100000) : (-x).toInt64 = -x.toInt64 := by
  apply Int64.toInt_inj.mp
  rw [i64_toInt, Int32.toInt_neg, Int64.toInt_neg, i64_toInt]
  rw [Int.bmod_eq_of_le (by omega) (by omega), Int.bmod_eq_of_le (by omega) (by omega)]
theorem le64 {x y : Int32} (h : x.toInt ≤ y.toInt) : x.toInt64 ≤ y.toInt64 := by
  rw [Int64.le_iff_toInt_le, i64_toInt, i64_toInt]; exact h
theorem nle64 {x y : Int32} (h : x.toInt ≤ y.toInt) (hx : -100000 ≤ x.toInt) (hy : y.toInt ≤ 100000) : -y.toInt64 ≤ -x.toInt64 := by
  rw [← neg64 (by omega) hy, ← neg64 hx (by omega)]
  refine le64 ?_
  rw [Int32.toInt_neg, Int32.toInt_neg, Int.bmod_eq_of_le (by omega) (by omega), Int.bmod_eq_of_le (by omega) (by omega)]
  omega
theorem WF.bn {S : tkS} (w : WF S) {j : Nat} (hj : j < sL S) : bnd S j := (w.2.2.2.1 j hj).2.2.2.1
theorem ml_link {S : tkS} (w : WF S) : ∀ l, l ≤ sL S → mlM S (-1) l = linkM S l := by
  intro l
  induction l with
  | zero => intro _; rfl
  | succ l ih =>
    intro hl
    have hb := w.bn (j := l) (by omega)
    unfold bnd at hb
    unfold mlM linkM
    rw [ih (by omega)]
    have hA : mlA S (-1) l = shi S l := if_neg (fun z => absurd z.1.1 (by decide))
    have hB : mlB S (-1) l = -slo S l := if_neg (fun z => absurd z.1.1 (by decide))
    rw [hA, hB, neg64 (by omega) (by omega)]
theorem d0_dia {n : Nat} : ∀ j, j < n → d0M j j ≤ 0 := fun j _ => by
  rw [show d0M j j = 0 from if_pos rfl]; exact Int64.le_refl _
theorem link_dia {S : tkS} {l n : Nat} : ∀ j, j < n → linkM S l j j ≤ 0 := by
  intro j hj
  have h := (le_linkM (S := S) (i := j) (j := j) (y := linkM S l j j) l).mp (Int64.le_refl _)
  exact ll_trans h.1 (d0_dia j hj)
theorem tog_eq {S : tkS} (w : WF S) : (togF S).1 = (mtog S (-1)).1 ∧ ((togF S).1 = true → (togF S).2 = (mtog S (-1)).2) := by
  unfold togF mtog
  rw [ml_link w (sL S) (Nat.le_refl _)]
  exact cl_mc link_dia
