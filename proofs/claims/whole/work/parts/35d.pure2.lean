/-! pure facts: lengths chosen, worst wishes -/
theorem ch_in {S : tkS} {k : Int32} {g : Nat} (h : bnd S (sgl S g)) : (slo S (sgl S g)).toInt ≤ (chL S k g).toInt ∧ (chL S k g).toInt ≤ (shi S (sgl S g)).toInt := by
  unfold bnd at h
  unfold chL
  split <;> omega
theorem sgn_pos {S : tkS} (w : WF S) {g : Nat} (hg : g < sG S) : 0 ≤ sgn S (sgl S g) ∧ sgn S (sgl S g) = nI g := by
  have h := (w.2.2.2.2.1 g hg).2.1
  have := w.2.2.1
  exact ⟨by rw [h]; exact Int32.not_lt.mp (nI_pos (by omega)), h⟩
theorem ml_gift {S : tkS} (w : WF S) {k : Int32} (hk : 0 ≤ k) {g : Nat} (hg : g < sG S) : mlA S k (sgl S g) = chL S k g ∧ mlB S k (sgl S g) = -chL S k g := by
  obtain ⟨h1, h2⟩ := sgn_pos w hg
  unfold mlA mlB chL
  rw [← h2]
  by_cases c : (k >>> (sgn S (sgl S g) &&& 31)) &&& 1 = 1
  · exact ⟨(if_neg (fun z => z.2 c)).trans (if_pos c).symm, (if_pos ⟨⟨hk, h1⟩, c⟩).trans (congrArg _ (if_pos c).symm)⟩
  · exact ⟨(if_pos ⟨⟨hk, h1⟩, c⟩).trans (if_neg c).symm, (if_neg (fun z => c z.2)).trans (congrArg _ (if_neg c).symm)⟩
theorem ml_wish {S : tkS} {k : Int32} {l : Nat} (h : sgn S l = -9) : mlA S k l = shi S l ∧ mlB S k l = -slo S l := by
  unfold mlA mlB
  rw [if_neg (fun z => absurd z.1.2 (by rw [h]; decide)), if_neg (fun z => absurd z.1.2 (by rw [h]; decide))]
  exact ⟨rfl, rfl⟩
theorem cb_ml {S : tkS} (w : WF S) {k : Int32} (hk : 0 ≤ k) : cbM S k (sG S) = mlM S k (sL S) := by
  funext i j
  refine le_ext (fun y => ?_)
  rw [le_cbM, le_linkM, le_mlM]
  constructor
  · rintro ⟨⟨h1, h2⟩, h3⟩
    refine ⟨h1, fun q hq => ?_⟩
    have hb := w.bn hq
    rcases (w.2.2.2.1 q hq).2.2.2.2 with e | ⟨g, hg, e, e2⟩
    · rw [(ml_wish e).1, (ml_wish e).2, neg64 hb.1 (Int.le_trans hb.2.1 hb.2.2)]
      exact h2 q hq
    · subst e2
      have hc := ch_in (k := k) hb
      unfold bnd at hb
      rw [(ml_gift w hk hg).1, (ml_gift w hk hg).2, neg64 (by omega) (by omega)]
      exact h3 g hg
  · rintro ⟨h1, h2⟩
    refine ⟨⟨h1, fun q hq => ?_⟩, fun g hg => ?_⟩
    · have hb := w.bn hq
      have h := h2 q hq
      rcases (w.2.2.2.1 q hq).2.2.2.2 with e | ⟨g, hg, e, e2⟩
      · rw [(ml_wish e).1, (ml_wish e).2, neg64 hb.1 (Int.le_trans hb.2.1 hb.2.2)] at h
        exact h
      · subst e2
        have hc := ch_in (k := k) hb
        unfold bnd at hb
        rw [(ml_gift w hk hg).1, (ml_gift w hk hg).2, neg64 (by omega) (by omega)] at h
        exact ⟨fun z => ll_trans (h.1 z) (le64 (by omega)), fun z => ll_trans (h.2 z) (nle64 (by omega) (by omega) (by omega))⟩
    · have h := h2 (sgl S g) (w.gl hg)
      have hb := w.bn (w.gl hg)
      have hc := ch_in (k := k) hb
      unfold bnd at hb
      rw [(ml_gift w hk hg).1, (ml_gift w hk hg).2, neg64 (by omega) (by omega)] at h
      exact h
theorem ml_dia {S : tkS} {k : Int32} {l n : Nat} : ∀ j, j < n → mlM S k l j j ≤ 0 := by
  intro j hj
  have h := (le_mlM (S := S) (k := k) (i := j) (j := j) (y := mlM S k l j j) l).mp (Int64.le_refl _)
  exact ll_trans h.1 (d0_dia j hj)
theorem met_eq {S : tkS} (w : WF S) {k : Int32} (hk : 0 ≤ k) : (metF S k).1 = (mtog S k).1 := by
  unfold metF mtog
  rw [cb_ml w hk]
  exact (cl_mc ml_dia).1
theorem sk_eq {S : tkS} (w : WF S) : ∀ n k, k + n ≤ 64 → (skF S n k = -9 ∧ mskF S n k = -1) ∨ ∃ j, j < 64 ∧ skF S n k = nI j ∧ mskF S n k = nI j := by
  intro n
  induction n with
  | zero => intro k _; exact Or.inl ⟨rfl, rfl⟩
  | succ n ih =>
    intro k hk
    unfold skF mskF
    rw [met_eq w (k := nI k) (Int32.not_lt.mp (nI_pos (by omega)))]
    split
    · exact ih (k + 1) (by omega)
    · exact Or.inr ⟨k, by omega, rfl, rfl⟩
theorem spo_eq {S : tkS} (w : WF S) : (spo S = -9 ∧ mspo S = -1) ∨ ∃ j, j < 64 ∧ spo S = nI j ∧ mspo S = nI j :=
  sk_eq w _ 0 (by have := pw2 (sG S) (by have := w.2.2.1; omega); omega)
theorem sgn_neg {S : tkS} (w : WF S) {l : Nat} (hl : l < sL S) : sgn S l < 0 ↔ sgn S l = -9 := by
  rcases (w.2.2.2.1 l hl).2.2.2.2 with e | ⟨g, hg, e, e2⟩
  · rw [e]; decide
  · subst e2
    have := (sgn_pos w hg).1
    exact ⟨fun z => absurd z (Int32.not_lt.mpr this), fun z => absurd this (by rw [z]; decide)⟩
theorem st_mst {S : tkS} (w : WF S) : ∀ l, l ≤ sL S → stM S l = mstM S l := by
  intro l
  induction l with
  | zero => intro _; rfl
  | succ l ih =>
    intro hl
    unfold stM mstM
    rw [ih (by omega)]
    have h := sgn_neg w (l := l) (by omega)
    by_cases c : sgn S l = -9
    · rw [if_pos c, if_pos (h.mpr c)]
      unfold wwM
      rw [Int64.neg_sub]
    · rw [if_neg c, if_neg (fun z => c (h.mp z))]
theorem mst_dia {S : tkS} {n : Nat} : ∀ l j, j < n → mstM S l j j ≤ 0 := by
  intro l
  induction l with
  | zero => exact d0_dia
  | succ l ih =>
    intro j hj
    unfold mstM
    split
    · exact ll_trans (lowM_le j j) (ll_trans (lowM_le j j) (ih j hj))
    · exact ih j hj
theorem str_eq {S : tkS} (w : WF S) : (strF S).1 = (mstr S).1 := by
  unfold strF mstr
  rw [st_mst w _ (Nat.le_refl _)]
  exact (cl_mc (mst_dia _)).1
/-! waits and edges together, in either order -/
theorem le_hrI {S : tkS} {v e : tkD} {g i j : Nat} {y : Int64} : ∀ n, y ≤ hrI S v g e n i j ↔ y ≤ e i j ∧ ∀ a, a < n → i = a ∧ j = sf S (sgl S g) → y ≤ v a g := by
  intro n
  induction n with
  | zero => exact ⟨fun h => ⟨h, fun q hq => absurd hq (Nat.not_lt_zero _)⟩, fun h => h.1⟩
  | succ n ih =>
    unfold hrI
    rw [le_lowM, ih]
    constructor
    · rintro ⟨⟨h1, h2⟩, h3⟩
      refine ⟨h1, fun a ha => ?_⟩
      by_cases q : a = n
      · subst q; exact h3
      · exact h2 a (by omega)
    · rintro ⟨h1, h2⟩
      exact ⟨⟨h1, fun a ha => h2 a (by omega)⟩, h2 n (by omega)⟩
theorem le_hrO {S : tkS} {v e : tkD} {n i j : Nat} {y : Int64} : ∀ G, y ≤ hrO S v e n G i j ↔ y ≤ e i j ∧ ∀ g, g < G → ∀ a, a < n → i = a ∧ j = sf S (sgl S g) → y ≤ v a g := by
  intro G
  induction G with
  | zero => exact ⟨fun h => ⟨h, fun q hq => absurd hq (Nat.not_lt_zero _)⟩, fun h => h.1⟩
  | succ G ih =>
    unfold hrO
    rw [le_hrI, ih]
    constructor
    · rintro ⟨⟨h1, h2⟩, h3⟩
      refine ⟨h1, fun g hg => ?_⟩
      by_cases q : g = G
      · subst q; exact h3
      · exact h2 g (by omega)
    · rintro ⟨h1, h2⟩
      exact ⟨⟨h1, fun g hg => h2 g (by omega)⟩, h2 G (by omega)⟩
theorem le_brI {S : tkS} {v e : tkD} {a i j : Nat} {y : Int64} : ∀ G, y ≤ brI S v a e G i j ↔ y ≤ e i j ∧ ∀ g, g < G → i = a ∧ j = sf S (sgl S g) → y ≤ v a g := by
  intro n
  induction n with
  | zero => exact ⟨fun h => ⟨h, fun q hq => absurd hq (Nat.not_lt_zero _)⟩, fun h => h.1⟩
  | succ n ih =>
    unfold brI
    rw [le_lowM, ih]
    constructor
    · rintro ⟨⟨h1, h2⟩, h3⟩
      refine ⟨h1, fun a ha => ?_⟩
      by_cases q : a = n
      · subst q; exact h3
      · exact h2 a (by omega)
    · rintro ⟨h1, h2⟩
      exact ⟨⟨h1, fun a ha => h2 a (by omega)⟩, h2 n (by omega)⟩
theorem le_brO {S : tkS} {v e : tkD} {G i j : Nat} {y : Int64} : ∀ n, y ≤ brO S v e G n i j ↔ y ≤ e i j ∧ ∀ a, a < n → ∀ g, g < G → i = a ∧ j = sf S (sgl S g) → y ≤ v a g := by
  intro n
  induction n with
  | zero => exact ⟨fun h => ⟨h, fun q hq => absurd hq (Nat.not_lt_zero _)⟩, fun h => h.1⟩
  | succ n ih =>
    unfold brO
    rw [le_brI, ih]
    constructor
    · rintro ⟨⟨h1, h2⟩, h3⟩
      refine ⟨h1, fun g hg => ?_⟩
      by_cases q : g = n
      · subst q; exact h3
      · exact h2 g (by omega)
    · rintro ⟨h1, h2⟩
      exact ⟨⟨h1, fun g hg => h2 g (by omega)⟩, h2 n (by omega)⟩
theorem hr_br {S : tkS} {v e : tkD} {n G : Nat} : hrO S v e n G = brO S v e G n := by
  funext i j
  refine le_ext (fun y => ?_)
  rw [le_hrO, le_brO]
  exact ⟨fun h => ⟨h.1, fun a ha g hg => h.2 g hg a ha⟩, fun h => ⟨h.1, fun g hg a ha => h.2 a ha g hg⟩⟩
/-! the places beyond the moments -/
theorem exT_in {t : tkD} {n : Nat} {d : tkD} {a b : Nat} (ha : a < n) (hb : b < n) : exT t n d a b = d a b := if_pos ⟨ha, hb⟩
theorem exT_low {t : tkD} {n : Nat} {d : tkD} {a b : Nat} {x : Int64} (ha : a < n) (hb : b < n) : lowM (exT t n d) a b x = exT t n (lowM d a b x) := by
  unfold lowM
  rw [exT_in ha hb]
  split
  · funext i j
    show (if i = a ∧ j = b then x else if i < n ∧ j < n then d i j else t i j) = (if i < n ∧ j < n then (if i = a ∧ j = b then x else d i j) else t i j)
    by_cases q : i = a ∧ j = b
    · rw [if_pos q, if_pos (by omega)]; exact (if_pos q).symm
    · rw [if_neg q]
      by_cases z : i < n ∧ j < n
      · rw [if_pos z, if_pos z]; exact (if_neg q).symm
      · rw [if_neg z, if_neg z]
  · rfl
theorem ex_mv {t : tkD} {n a k : Nat} {d : tkD} (ha : a < n) (hk : k < n) : ∀ b, b ≤ n → mvM (exT t n d) a k b = exT t n (mvM d a k b) := by
  intro b
  induction b with
  | zero => intro _; rfl
  | succ b ih =>
    intro hb
    unfold mvM
    rw [ih (by omega), exT_in ha hk, exT_in hk (by omega)]
    split
    · rfl
    · split
      · rfl
      · exact exT_low ha (by omega)
theorem ex_mw {t : tkD} {n k : Nat} {d : tkD} (hk : k < n) : ∀ a, a ≤ n → mwM (exT t n d) k n a = exT t n (mwM d k n a) := by
  intro a
  induction a with
  | zero => intro _; rfl
  | succ a ih =>
    intro ha
    unfold mwM
    rw [ih (by omega)]
    exact ex_mv (by omega) hk n (Nat.le_refl _)
theorem ex_mc {t : tkD} {n : Nat} {d : tkD} : ∀ k, k ≤ n → mcM (exT t n d) n k = exT t n (mcM d n k) := by
  intro k
  induction k with
  | zero => intro _; rfl
  | succ k ih =>
    intro hk
    unfold mcM
    rw [ih (by omega)]
    exact ex_mw (by omega) n (Nat.le_refl _)
theorem ex_neg {t : tkD} {n : Nat} {d : tkD} : ∀ k m, m + k ≤ n → negF (exT t n d) k m = negF d k m := by
  intro k
  induction k with
  | zero => intro m _; rfl
  | succ k ih =>
    intro m hm
    unfold negF
    rw [exT_in (by omega) (by omega), ih (m + 1) (by omega)]
theorem ex_mcF {t : tkD} {n : Nat} {d : tkD} : mcF (exT t n d) n = ((mcF d n).1, exT t n (mcF d n).2) := by
  unfold mcF
  dsimp only
  rw [ex_mc n (Nat.le_refl _), ex_neg n 0 (by omega)]
theorem ex_lw {t : tkD} {n a g : Nat} {e v : tkD} (ha : a < n) : ∀ b, b ≤ n → lwF (exT t n e) v a g b = lwF e v a g b := by
  intro b
  induction b with
  | zero => intro _; rfl
  | succ b ih =>
    intro hb
    unfold lwF
    rw [ih (by omega), exT_in ha (by omega)]
theorem ex_ca {t : tkD} {n G : Nat} {e v : tkD} {a0 g0 : Nat} : caM (exT t n e) v n G a0 g0 = caM e v n G a0 g0 := by
  funext a g
  unfold caM
  by_cases z : (a < n ∧ g < G) ∧ (a < a0 ∨ (a = a0 ∧ g < g0))
  · rw [if_pos z, if_pos z, ex_lw z.1.1 n (Nat.le_refl _)]
  · rw [if_neg z, if_neg z]
theorem ex_tsI {t : tkD} {S : tkS} (w : WF S) {v e : tkD} {g : Nat} (hg : g < sG S) : ∀ n, n ≤ sM S → tsI S v g (exT t (sM S) e) n = exT t (sM S) (tsI S v g e n) := by
  intro n
  induction n with
  | zero => intro _; rfl
  | succ n ih =>
    intro hn
    unfold tsI
    rw [ih (by omega)]
    split
    · exact exT_low (by omega) (w.fM (w.gl hg))
    · rfl
theorem ex_tsO {t : tkD} {S : tkS} (w : WF S) {v e : tkD} : ∀ G, G ≤ sG S → tsO S v (exT t (sM S) e) (sM S) G = exT t (sM S) (tsO S v e (sM S) G) := by
  intro G
  induction G with
  | zero => intro _; rfl
  | succ G ih =>
    intro hG
    unfold tsO
    rw [ih (by omega)]
    exact ex_tsI w (by omega) _ (Nat.le_refl _)
theorem ex_ceI {t : tkD} {S : tkS} (w : WF S) {q e : tkD} {g : Nat} (hg : g < sG S) : ∀ n, n ≤ sM S → ceI S (exT t (sM S) q) g (exT t (sM S) e) n = exT t (sM S) (ceI S q g e n) := by
  intro n
  induction n with
  | zero => intro _; rfl
  | succ n ih =>
    intro hn
    unfold ceI
    rw [ih (by omega), exT_in (w.eM (w.gl hg)) (by omega)]
    split
    · exact exT_low (w.fM (w.gl hg)) (by omega)
    · rfl
theorem ex_ceO {t : tkD} {S : tkS} (w : WF S) {q e : tkD} : ∀ G, G ≤ sG S → ceO S (exT t (sM S) q) (exT t (sM S) e) (sM S) G = exT t (sM S) (ceO S q e (sM S) G) := by
  intro G
  induction G with
  | zero => intro _; rfl
  | succ G ih =>
    intro hG
    unfold ceO
    rw [ih (by omega)]
    exact ex_ceI w (by omega) _ (Nat.le_refl _)
theorem ex_brI {t : tkD} {S : tkS} (w : WF S) {v e : tkD} {a : Nat} (ha : a < sM S) : ∀ G, G ≤ sG S → brI S v a (exT t (sM S) e) G = exT t (sM S) (brI S v a e G) := by
  intro G
  induction G with
  | zero => intro _; rfl
  | succ G ih =>
    intro hG
    unfold brI
    rw [ih (by omega)]
    exact exT_low ha (w.fM (w.gl (by omega)))
theorem ex_brO {t : tkD} {S : tkS} (w : WF S) {v e : tkD} : ∀ n, n ≤ sM S → brO S v (exT t (sM S) e) (sG S) n = exT t (sM S) (brO S v e (sG S) n) := by
  intro n
  induction n with
  | zero => intro _; rfl
  | succ n ih =>
    intro hn
    unfold brO
    rw [ih (by omega)]
    exact ex_brI w (by omega) _ (Nat.le_refl _)
theorem exM_low {n : Nat} {d : tkD} {a b : Nat} {x : Int64} (ha : a < n) (hb : b < n) : lowM (exM n d) a b x = exM n (lowM d a b x) := exT_low ha hb
