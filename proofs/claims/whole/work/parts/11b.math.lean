/-! the net as numbers: moments, links, gifts; beginnings, ends, lows, highs, gift numbers, the gifts' links -/
abbrev tkS : Type := Nat × Nat × Nat × (Nat → Nat) × (Nat → Nat) × (Nat → Int32) × (Nat → Int32) × (Nat → Int32) × (Nat → Nat)
def sM (S : tkS) : Nat := S.1
def sL (S : tkS) : Nat := S.2.1
def sG (S : tkS) : Nat := S.2.2.1
def sf (S : tkS) : Nat → Nat := S.2.2.2.1
def se (S : tkS) : Nat → Nat := S.2.2.2.2.1
def slo (S : tkS) : Nat → Int32 := S.2.2.2.2.2.1
def shi (S : tkS) : Nat → Int32 := S.2.2.2.2.2.2.1
def sgn (S : tkS) : Nat → Int32 := S.2.2.2.2.2.2.2.1
def sgl (S : tkS) : Nat → Nat := S.2.2.2.2.2.2.2.2
def NetP (X : Nat → Nat → Int32) (S : tkS) : Prop := X 0 0 = nI (sM S) ∧ X 0 1 = nI (sL S) ∧ X 0 2 = nI (sG S) ∧ (∀ j, j < sL S → X 4 j = nI (sf S j) ∧ X 5 j = nI (se S j) ∧ X 6 j = slo S j ∧ X 7 j = shi S j ∧ X 8 j = sgn S j) ∧ ∀ g, g < sG S → X 9 g = nI (sgl S g)
/-- the gift that ends at m, from g on; g + n if there is none -/
def gtF (S : tkS) (m : Nat) : Nat → Nat → Nat
  | 0, g => g
  | n + 1, g => if se S (sgl S g) = m then g else gtF S m n (g + 1)
def gt (S : tkS) (m : Nat) : Nat := gtF S m (sG S) 0
/-- the n-th beginning behind m -/
def up (S : tkS) : Nat → Nat → Option Nat
  | 0, m => some m
  | n + 1, m => if gt S m < sG S then up S n (sf S (sgl S (gt S m))) else none
def bnd (S : tkS) (j : Nat) : Prop := -100000 ≤ (slo S j).toInt ∧ (slo S j).toInt ≤ (shi S j).toInt ∧ (shi S j).toInt ≤ 100000
def WF (S : tkS) : Prop := sM S ≤ 16 ∧ sL S ≤ 60 ∧ sG S ≤ 6 ∧ (∀ j, j < sL S → sf S j < sM S ∧ se S j < sM S ∧ sf S j ≠ se S j ∧ bnd S j ∧ (sgn S j = -9 ∨ ∃ g, g < sG S ∧ sgn S j = nI g ∧ sgl S g = j)) ∧ (∀ g, g < sG S → sgl S g < sL S ∧ sgn S (sgl S g) = nI g ∧ 1 ≤ (slo S (sgl S g)).toInt) ∧ (∀ g h, g < sG S → h < sG S → se S (sgl S g) = se S (sgl S h) → g = h) ∧ (∀ g h, g < h → h < sG S → sgl S g < sgl S h) ∧ ∃ r : Nat → Nat, ∀ g, g < sG S → r (sf S (sgl S g)) < r (se S (sgl S g))
theorem gtF_le (S : tkS) (m : Nat) : ∀ n g, gtF S m n g ≤ g + n := by
  intro n
  induction n with
  | zero => intro g; exact Nat.le_refl _
  | succ n ih =>
    intro g
    unfold gtF
    split
    · omega
    · have := ih (g + 1); omega
theorem gtF_ge (S : tkS) (m : Nat) : ∀ n g, g ≤ gtF S m n g := by
  intro n
  induction n with
  | zero => intro g; exact Nat.le_refl _
  | succ n ih =>
    intro g
    unfold gtF
    split
    · omega
    · have := ih (g + 1); omega
theorem gtF_lt {S : tkS} {m : Nat} : ∀ {n g}, gtF S m n g < g + n → se S (sgl S (gtF S m n g)) = m := by
  intro n
  induction n with
  | zero => intro g h; exact absurd h (Nat.lt_irrefl _)
  | succ n ih =>
    intro g h
    unfold gtF at h ⊢
    split
    · assumption
    · rename_i q
      rw [if_neg q] at h
      exact ih (by omega)
theorem gtF_none {S : tkS} {m : Nat} : ∀ {n g}, gtF S m n g = g + n → ∀ h, g ≤ h → h < g + n → se S (sgl S h) ≠ m := by
  intro n
  induction n with
  | zero => intro g _ h h1 h2; omega
  | succ n ih =>
    intro g e h h1 h2
    unfold gtF at e
    split at e
    · omega
    · rename_i q
      by_cases z : g = h
      · subst z; exact q
      · exact ih (g := g + 1) (by omega) h (by omega) (by omega)
theorem gt_le (S : tkS) (m : Nat) : gt S m ≤ sG S := by
  have := gtF_le S m (sG S) 0
  unfold gt; omega
theorem gt_lt {S : tkS} {m : Nat} (h : gt S m < sG S) : se S (sgl S (gt S m)) = m := gtF_lt (by rw [Nat.zero_add]; exact h)
theorem NetP.m {X : Nat → Nat → Int32} {S : tkS} (h : NetP X S) : X 0 0 = nI (sM S) := h.1
theorem NetP.l {X : Nat → Nat → Int32} {S : tkS} (h : NetP X S) : X 0 1 = nI (sL S) := h.2.1
theorem NetP.g {X : Nat → Nat → Int32} {S : tkS} (h : NetP X S) : X 0 2 = nI (sG S) := h.2.2.1
theorem NetP.fr {X : Nat → Nat → Int32} {S : tkS} (h : NetP X S) (w : WF S) {j : Nat} (hj : j < sL S) : X 4 (nI j).toNatClampNeg = nI (sf S j) := by rw [nI_clamp (by have := w.2.1; omega)]; exact (h.2.2.2.1 j hj).1
theorem NetP.en {X : Nat → Nat → Int32} {S : tkS} (h : NetP X S) (w : WF S) {j : Nat} (hj : j < sL S) : X 5 (nI j).toNatClampNeg = nI (se S j) := by rw [nI_clamp (by have := w.2.1; omega)]; exact (h.2.2.2.1 j hj).2.1
theorem NetP.lo {X : Nat → Nat → Int32} {S : tkS} (h : NetP X S) (w : WF S) {j : Nat} (hj : j < sL S) : X 6 (nI j).toNatClampNeg = slo S j := by rw [nI_clamp (by have := w.2.1; omega)]; exact (h.2.2.2.1 j hj).2.2.1
theorem NetP.hi {X : Nat → Nat → Int32} {S : tkS} (h : NetP X S) (w : WF S) {j : Nat} (hj : j < sL S) : X 7 (nI j).toNatClampNeg = shi S j := by rw [nI_clamp (by have := w.2.1; omega)]; exact (h.2.2.2.1 j hj).2.2.2.1
theorem NetP.gn {X : Nat → Nat → Int32} {S : tkS} (h : NetP X S) (w : WF S) {j : Nat} (hj : j < sL S) : X 8 (nI j).toNatClampNeg = sgn S j := by rw [nI_clamp (by have := w.2.1; omega)]; exact (h.2.2.2.1 j hj).2.2.2.2
theorem NetP.gl {X : Nat → Nat → Int32} {S : tkS} (h : NetP X S) (w : WF S) {g : Nat} (hg : g < sG S) : X 9 (nI g).toNatClampNeg = nI (sgl S g) := by rw [nI_clamp (by have := w.2.2.1; omega)]; exact h.2.2.2.2 g hg
theorem WF.gl {S : tkS} (w : WF S) {g : Nat} (hg : g < sG S) : sgl S g < sL S := (w.2.2.2.2.1 g hg).1
theorem WF.fM {S : tkS} (w : WF S) {j : Nat} (hj : j < sL S) : sf S j < sM S := (w.2.2.2.1 j hj).1
theorem WF.eM {S : tkS} (w : WF S) {j : Nat} (hj : j < sL S) : se S j < sM S := (w.2.2.2.1 j hj).2.1
/-- at most so many different numbers below G -/
theorem pigeon : ∀ (G n : Nat) (f : Nat → Nat), (∀ i, i < n → f i < G) → (∀ i j, i < n → j < n → f i = f j → i = j) → n ≤ G := by
  intro G
  induction G with
  | zero =>
    intro n f h _
    rcases Nat.eq_zero_or_pos n with q | q
    · omega
    · exact absurd (h 0 q) (Nat.not_lt_zero _)
  | succ G ih =>
    intro n f h inj
    cases n with
    | zero => omega
    | succ n =>
      -- the place of G, if any, is given to the last one
      by_cases hG : ∃ i, i < n + 1 ∧ f i = G
      · obtain ⟨i0, hi0, he0⟩ := hG
        have := ih n (fun i => if i = i0 then f n else f i) (fun i hi => by
          try dsimp only
          split
          · rename_i q
            have hn := h n (Nat.lt_succ_self n)
            have hne : f n ≠ G := fun z => by
              have := inj n i0 (Nat.lt_succ_self n) hi0 (z.trans he0.symm)
              omega
            omega
          · rename_i q
            have hi' := h i (by omega)
            have hne : f i ≠ G := fun z => q (inj i i0 (by omega) hi0 (z.trans he0.symm))
            omega) (fun i j hi hj e => by
          try dsimp only at e
          split at e <;> split at e
          · omega
          · rename_i q1 q2
            have := inj n j (Nat.lt_succ_self n) (by omega) e
            omega
          · rename_i q1 q2
            have := inj i n (by omega) (Nat.lt_succ_self n) e
            omega
          · exact inj i j (by omega) (by omega) e)
        omega
      · have := ih (n + 1) f (fun i hi => by
          have h1 := h i hi
          have : f i ≠ G := fun z => hG ⟨i, hi, z⟩
          omega) inj
        omega
theorem up_lt {S : tkS} (w : WF S) : ∀ n m, m < sM S → ∀ k, up S n m = some k → k < sM S := by
  intro n
  induction n with
  | zero => intro m hm k h; cases h; exact hm
  | succ n ih =>
    intro m hm k h
    unfold up at h
    split at h
    · rename_i q
      exact ih _ (w.fM (w.gl q)) k h
    · cases h
theorem up_rank {S : tkS} {r : Nat → Nat} (hr : ∀ g, g < sG S → r (sf S (sgl S g)) < r (se S (sgl S g))) : ∀ n m k, up S n m = some k → r k + n ≤ r m := by
  intro n
  induction n with
  | zero => intro m k h; cases h; exact Nat.le_refl _
  | succ n ih =>
    intro m k h
    unfold up at h
    split at h
    · rename_i q
      have h1 := ih _ k h
      have h2 := hr _ q
      rw [gt_lt q] at h2
      omega
    · cases h
theorem up_add {S : tkS} : ∀ a b m k, up S a m = some k → up S (a + b) m = up S b k := by
  intro a
  induction a with
  | zero => intro b m k h; cases h; rw [Nat.zero_add]
  | succ a ih =>
    intro b m k h
    unfold up at h
    split at h
    · rename_i q
      rw [show a + 1 + b = (a + b) + 1 by omega]
      show (if gt S m < sG S then _ else _) = _
      rw [if_pos q]
      exact ih b _ k h
    · cases h
theorem up_pre {S : tkS} {n m k i : Nat} (h : up S n m = some k) (hi : i ≤ n) : ∃ j, up S i m = some j := by
  induction i generalizing m n with
  | zero => exact ⟨m, rfl⟩
  | succ i ih =>
    cases n with
    | zero => omega
    | succ n =>
      unfold up at h ⊢
      split at h
      · rename_i q
        rw [if_pos q]
        exact ih h (by omega)
      · cases h
/-- going back takes at most as many steps as there are gifts -/
theorem up_le {S : tkS} (w : WF S) {n m k : Nat} (h : up S n m = some k) : n ≤ sG S := by
  obtain ⟨r, hr⟩ := w.2.2.2.2.2.2.2
  have key : ∀ i, i < n → ∃ j, up S i m = some j ∧ gt S j < sG S := by
    intro i hi
    obtain ⟨j, hj⟩ := up_pre h (Nat.le_of_lt hi)
    obtain ⟨j2, hj2⟩ := up_pre h (show i + 1 ≤ n from hi)
    refine ⟨j, hj, ?_⟩
    rw [up_add i 1 m j hj] at hj2
    unfold up at hj2
    split at hj2
    · assumption
    · cases hj2
  refine pigeon (sG S) n (fun i => match up S i m with | some j => gt S j | none => 0) (fun i hi => ?_) (fun i j hi hj e => ?_)
  · obtain ⟨a, ha, hg⟩ := key i hi
    try dsimp only
    rw [ha]; exact hg
  · obtain ⟨a, ha, hga⟩ := key i hi
    obtain ⟨c, hc, hgc⟩ := key j hj
    try dsimp only at e
    rw [ha, hc] at e
    try dsimp only at e
    have e2 : a = c := by rw [← gt_lt hga, ← gt_lt hgc, e]
    subst e2
    rcases Nat.lt_trichotomy i j with q | q | q
    · have h1 := up_add i (j - i) m a ha
      rw [show i + (j - i) = j by omega, hc] at h1
      have := up_rank hr (j - i) a a h1.symm
      omega
    · exact q
    · have h1 := up_add j (i - j) m a hc
      rw [show j + (i - j) = i by omega, ha] at h1
      have := up_rank hr (i - j) a a h1.symm
      omega
