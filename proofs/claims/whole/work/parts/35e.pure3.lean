/-! pure facts: the class's rounds and the reference's -/
def OutE (S : tkS) (e : tkD) : Prop := exT d0M (sM S) e = e
def OutW (S : tkS) (v : tkD) : Prop := ∀ a g, ¬ (a < sM S ∧ g < sG S) → v a g = 4611686018427387904
def DiaE (S : tkS) (e : tkD) : Prop := ∀ j, j < sM S → e j j ≤ 0
theorem OutE.out {S : tkS} {e : tkD} (h : OutE S e) {a b : Nat} (q : ¬ (a < sM S ∧ b < sM S)) : e a b = d0M a b := by
  have := congrFun (congrFun h a) b
  rw [← this]
  exact if_neg q
theorem OutE.low {S : tkS} {e : tkD} (h : OutE S e) {a b : Nat} (ha : a < sM S) (hb : b < sM S) {x : Int64} : OutE S (lowM e a b x) := by
  unfold OutE
  rw [← exT_low ha hb, h]
theorem out_link {S : tkS} (w : WF S) : ∀ l, l ≤ sL S → OutE S (linkM S l) := by
  intro l
  induction l with
  | zero =>
    intro _
    funext a b
    show (if a < sM S ∧ b < sM S then d0M a b else d0M a b) = d0M a b
    split <;> rfl
  | succ l ih =>
    intro hl
    have hf := w.fM (j := l) (by omega)
    have he := w.eM (j := l) (by omega)
    exact ((ih (by omega)).low hf he).low he hf
theorem out_mc {S : tkS} {e : tkD} (h : OutE S e) : OutE S (mcF e (sM S)).2 := by
  have h2 := ex_mcF (t := d0M) (n := sM S) (d := e)
  rw [h] at h2
  exact (congrArg Prod.snd h2).symm
theorem out_ts {S : tkS} (w : WF S) {v e : tkD} (h : OutE S e) : OutE S (tsO S v e (sM S) (sG S)) := by
  have h2 := ex_tsO (t := d0M) w (v := v) (e := e) (sG S) (Nat.le_refl _)
  rw [h] at h2
  exact h2.symm
theorem out_ce {S : tkS} (w : WF S) {e : tkD} (h : OutE S e) : OutE S (ceO S e e (sM S) (sG S)) := by
  have h2 := ex_ceO (t := d0M) w (q := e) (e := e) (sG S) (Nat.le_refl _)
  rw [h] at h2
  exact h2.symm
theorem out_bd {S : tkS} (w : WF S) : ∀ g, g ≤ sG S → OutW S (bdM S g) := by
  intro g
  induction g with
  | zero => intro _ a g _; rfl
  | succ g ih =>
    intro hg a k q
    have he := w.eM (w.gl (g := g) (by omega))
    unfold bdM
    rw [show upM (bdM S g) (se S (sgl S g)) g (-shi S (sgl S g)).toInt64 a k = bdM S g a k from if_neg (by omega)]
    exact ih (by omega) a k q
theorem out_ca {S : tkS} {e v : tkD} (h : OutW S v) {a0 g0 : Nat} : OutW S (caM e v (sM S) (sG S) a0 g0) := by
  intro a g q
  unfold caM
  rw [if_neg (fun z => q z.1)]
  exact h a g q
theorem out_cgI {S : tkS} (w : WF S) {u v : tkD} {g : Nat} (hg : g < sG S) (h : OutW S v) : ∀ n, n ≤ sG S → OutW S (cgI S u g v n) := by
  intro n
  induction n with
  | zero => intro _; exact h
  | succ n ih =>
    intro hn a k q
    have hf := w.fM (w.gl hg)
    unfold cgI
    split
    · rw [show ∀ x, upM (cgI S u g v n) (sf S (sgl S g)) n x a k = cgI S u g v n a k from fun x => if_neg (by omega)]
      exact ih (by omega) a k q
    · exact ih (by omega) a k q
theorem out_cg {S : tkS} (w : WF S) {u v : tkD} (h : OutW S v) : ∀ g, g ≤ sG S → OutW S (cgO S u v (sG S) g) := by
  intro g
  induction g with
  | zero => intro _; exact h
  | succ g ih =>
    intro hg
    exact out_cgI w (by omega) (ih (by omega)) _ (Nat.le_refl _)
theorem tsI_le {S : tkS} {v e : tkD} {g : Nat} (i j : Nat) : ∀ n, tsI S v g e n i j ≤ e i j := by
  intro n
  induction n with
  | zero => exact Int64.le_refl _
  | succ n ih =>
    unfold tsI
    split
    · exact ll_trans (lowM_le i j) ih
    · exact ih
theorem tsO_le {S : tkS} {v e : tkD} {n : Nat} (i j : Nat) : ∀ g, tsO S v e n g i j ≤ e i j := by
  intro g
  induction g with
  | zero => exact Int64.le_refl _
  | succ g ih => exact ll_trans (tsI_le i j n) ih
theorem ceI_le {S : tkS} {q e : tkD} {g : Nat} (i j : Nat) : ∀ n, ceI S q g e n i j ≤ e i j := by
  intro n
  induction n with
  | zero => exact Int64.le_refl _
  | succ n ih =>
    unfold ceI
    split
    · exact ll_trans (lowM_le i j) ih
    · exact ih
theorem ceO_le {S : tkS} {q e : tkD} {n : Nat} (i j : Nat) : ∀ g, ceO S q e n g i j ≤ e i j := by
  intro g
  induction g with
  | zero => exact Int64.le_refl _
  | succ g ih => exact ll_trans (ceI_le i j n) ih
theorem smF_iff {r q : Nat → Int64} : ∀ n j, smF r q n j = true ↔ ∀ i, j ≤ i → i < j + n → r i = q i := by
  intro n
  induction n with
  | zero => intro j; exact ⟨fun _ i h1 h2 => by omega, fun _ => rfl⟩
  | succ n ih =>
    intro j
    unfold smF
    split
    · rename_i h
      rw [ih (j + 1)]
      constructor
      · intro z i h1 h2
        by_cases e : i = j
        · subst e; exact h
        · exact z i (by omega) (by omega)
      · intro z i h1 h2; exact z i (by omega) (by omega)
    · rename_i h
      exact ⟨fun z => (by cases z), fun z => absurd (z j (by omega) (by omega)) h⟩
theorem dpF_iff {r : Nat → Int64} : ∀ n j, dpF r n j = true ↔ ∃ i, j ≤ i ∧ i < j + n ∧ r i < -1000000000000 := by
  intro n
  induction n with
  | zero => intro j; exact ⟨fun h => (by cases h), fun ⟨i, h1, h2, _⟩ => by omega⟩
  | succ n ih =>
    intro j
    unfold dpF
    split
    · rename_i h
      exact ⟨fun _ => ⟨j, by omega, by omega, h⟩, fun _ => rfl⟩
    · rename_i h
      rw [ih (j + 1)]
      constructor
      · rintro ⟨i, h1, h2, h3⟩; exact ⟨i, by omega, by omega, h3⟩
      · rintro ⟨i, h1, h2, h3⟩
        by_cases z : i = j
        · subst z; exact absurd h3 h
        · exact ⟨i, by omega, by omega, h3⟩
theorem d0_deep {a b : Nat} : ¬ d0M a b < -1000000000000 := by
  unfold d0M
  split <;> decide
theorem exM_in' {n : Nat} {d : tkD} {a b : Nat} (h : a < n ∧ b < n) : exM n d a b = d a b := if_pos h
theorem exM_out {n : Nat} {d : tkD} {a b : Nat} (h : ¬ (a < n ∧ b < n)) : exM n d a b = 4611686018427387904 := if_neg h
theorem deepE {S : tkS} {e : tkD} (h : OutE S e) {j : Nat} : rowE e j < -1000000000000 ↔ rowE (exM (sM S) e) j < -1000000000000 := by
  unfold rowE
  by_cases q : j / 16 < sM S ∧ j % 16 < sM S
  · rw [exM_in' q]
  · rw [exM_out q, h.out q]
    exact ⟨fun z => absurd z d0_deep, fun z => absurd z (by decide)⟩
theorem sameE {S : tkS} {e e' : tkD} (h : OutE S e) (h' : OutE S e') {j : Nat} : rowE e j = rowE e' j ↔ rowE (exM (sM S) e) j = rowE (exM (sM S) e') j := by
  unfold rowE
  by_cases q : j / 16 < sM S ∧ j % 16 < sM S
  · rw [exM_in' q, exM_in' q]
  · rw [exM_out q, exM_out q, h.out q, h'.out q]
    exact ⟨fun _ => rfl, fun _ => rfl⟩
theorem sm_same {S : tkS} {e e' : tkD} (h : OutE S e) (h' : OutE S e') : smF (rowE e) (rowE e') 256 0 = true ↔ smF (rowE (exM (sM S) e)) (rowE (exM (sM S) e')) 256 0 = true := by
  rw [smF_iff, smF_iff]
  exact ⟨fun z i h1 h2 => (sameE h h').mp (z i h1 h2), fun z i h1 h2 => (sameE h h').mpr (z i h1 h2)⟩
theorem ring_eq {S : tkS} (w : WF S) {e v : tkD} (hd : DiaE S e) : (clF (hrO S v e (sM S) (sG S)) (sM S)).1 = (mcF (brO S v (exM (sM S) e) (sG S) (sM S)) (sM S)).1 := by
  rw [hr_br, show brO S v (exM (sM S) e) (sG S) (sM S) = exM (sM S) (brO S v e (sG S) (sM S)) from ex_brO w _ (Nat.le_refl _), show mcF (exM (sM S) (brO S v e (sG S) (sM S))) (sM S) = _ from ex_mcF]
  exact (cl_mc (fun j hj => ll_trans ((le_brO (y := brO S v e (sG S) (sM S) j j) _).mp (Int64.le_refl _)).1 (hd j hj))).1
theorem bad_eq {S : tkS} (w : WF S) {e v : tkD} (h : OutE S e) (hv : OutW S v) (hd : DiaE S e) : (dpF (rowE e) 256 0 = true ∨ dpF (rowW v) 96 0 = true ∨ ¬ (clF (hrO S v e (sM S) (sG S)) (sM S)).1 = true) ↔ mBad S (exM (sM S) e) v := by
  have hM16 := w.1
  have hG6 := w.2.2.1
  unfold mBad
  rw [ring_eq w hd, dpF_iff, dpF_iff]
  constructor
  · rintro (⟨i, _, h2, h3⟩ | ⟨i, _, h2, h3⟩ | h1)
    · exact Or.inl (Or.inl ⟨i, by omega, (deepE h).mp h3⟩)
    · unfold rowW at h3
      by_cases q : i / 6 < sM S ∧ i % 6 < sG S
      · exact Or.inl (Or.inr ⟨_, q.1, _, q.2, h3⟩)
      · rw [hv _ _ q] at h3; exact absurd h3 (by decide)
    · exact Or.inr h1
  · rintro ((⟨i, h2, h3⟩ | ⟨a, ha, g, hg, h3⟩) | h1)
    · exact Or.inl ⟨i, by omega, by omega, (deepE h).mpr h3⟩
    · refine Or.inr (Or.inl ⟨6 * a + g, by omega, by omega, ?_⟩)
      unfold rowW
      rw [show (6 * a + g) / 6 = a by omega, show (6 * a + g) % 6 = g by omega]
      exact h3
    · exact Or.inr (Or.inr h1)
theorem rd_eq {S : tkS} (w : WF S) {e v e1 v1 e1' v1' : tkD} {x x' : Int32} (h : OutE S e) (hv : OutW S v) (hd : DiaE S e) (hr : RdP S e v x e1 v1) (hm : mRd S (exM (sM S) e) v x' e1' v1') : x = x' ∧ (x ≠ 2 → e1' = exM (sM S) e1 ∧ v1' = v1 ∧ OutE S e1 ∧ OutW S v1 ∧ DiaE S e1) := by
  have hc := cl_mc hd
  have hC : mrC S (exM (sM S) e) = ((mcF e (sM S)).1, exM (sM S) (mcF e (sM S)).2) := ex_mcF
  rcases hr with ⟨q1, q2, _, _⟩ | ⟨q1, q2, q3, q4⟩
  · have q1 : ¬ (clF e (sM S)).1 = true := q1
    rw [hc.1] at q1
    rcases hm with ⟨p1, p2⟩ | ⟨p1, _⟩
    · rw [q2, p2]; exact ⟨rfl, fun z => absurd rfl z⟩
    · rw [hC] at p1; exact absurd p1 q1
  · have q1 : (clF e (sM S)).1 = true := q1
    have hc2 := hc.2 q1
    rcases hm with ⟨p1, p2⟩ | ⟨p1, p2, p3, p4⟩
    · rw [hC] at p1; rw [hc.1] at q1; exact absurd q1 p1
    · have eC : (mrC S (exM (sM S) e)).2 = exM (sM S) (rdC S e).2 := by rw [hC]; show exM (sM S) _ = exM (sM S) _; rw [← hc2]; rfl
      have eV1 : mrV1 S (exM (sM S) e) v = rdV1 S e v := by unfold mrV1 rdV1; rw [eC]; exact ex_ca
      have eE2 : mrE2 S (exM (sM S) e) v = exM (sM S) (rdE2 S e v) := by unfold mrE2 rdE2; rw [eC, eV1]; exact ex_tsO w _ (Nat.le_refl _)
      have eE3 : mrE3 S (exM (sM S) e) v = exM (sM S) (rdE3 S e v) := by unfold mrE3 rdE3; rw [eE2]; exact ex_ceO w _ (Nat.le_refl _)
      have eV2 : mrV2 S (exM (sM S) e) v = rdV2 S e v := by unfold mrV2 rdV2; rw [eV1]
      have oC : OutE S (rdC S e).2 := by
        have := out_mc h
        rw [← hc2] at this
        exact this
      have dC : DiaE S (rdC S e).2 := by
        intro j hj
        show (clF e (sM S)).2 j j ≤ 0
        rw [hc2]
        have := mcM_le (d := e) (n := sM S) j j 0 (sM S)
        rw [Nat.zero_add] at this
        exact ll_trans this (hd j hj)
      have oV1 : OutW S (rdV1 S e v) := out_ca hv
      have oE3 : OutE S (rdE3 S e v) := out_ce w (out_ts w oC)
      have dE3 : DiaE S (rdE3 S e v) := fun j hj => ll_trans (ceO_le j j _) (ll_trans (tsO_le j j _) (dC j hj))
      have oV2 : OutW S (rdV2 S e v) := out_cg w oV1 _ (Nat.le_refl _)
      have hb : rdBad S e v ↔ mBad S (exM (sM S) (rdE3 S e v)) (rdV2 S e v) := bad_eq w oE3 oV2 dE3
      have hs : rdSame S e v ↔ mrSame S (exM (sM S) e) v := by
        unfold rdSame mrSame
        rw [eE3, eV2, sm_same oE3 h]
      rw [eE3, eV2, ← hb] at p4
      rw [← hs] at p4
      rw [eE3] at p2
      rw [eV2] at p3
      refine ⟨?_, fun _ => ⟨by rw [p2, q2], by rw [p3, q3], by rw [q2]; exact oE3, by rw [q3]; exact oV2, by rw [q2]; exact dE3⟩⟩
      rcases q4 with ⟨a1, a2⟩ | ⟨a1, ⟨a2, a3⟩ | ⟨a2, a3⟩⟩
      · rcases p4 with ⟨b1, b2⟩ | ⟨b1, _⟩
        · rw [a2, b2]
        · exact absurd a1 b1
      · rcases p4 with ⟨b1, b2⟩ | ⟨b1, ⟨b2, b3⟩ | ⟨b2, b3⟩⟩
        · exact absurd b1 a1
        · rw [a3, b3]
        · exact absurd a2 b2
      · rcases p4 with ⟨b1, b2⟩ | ⟨b1, ⟨b2, b3⟩ | ⟨b2, b3⟩⟩
        · exact absurd b1 a1
        · exact absurd b2 a2
        · rw [a3, b3]
theorem run_eq {S : tkS} (w : WF S) : ∀ k x x' e v e' v', RunP S k x e v → mRun S k x' e' v' → x = x' ∧ (x ≠ 2 → e' = exM (sM S) e ∧ v' = v ∧ OutE S e ∧ OutW S v ∧ DiaE S e) := by
  intro k
  induction k with
  | zero =>
    rintro x x' e v e' v' ⟨h1, h2, h3⟩ ⟨g1, g2, g3⟩
    refine ⟨by rw [h1, g1], fun _ => ⟨by rw [g2, h2, ml_link w _ (Nat.le_refl _)], by rw [g3, h3], by rw [h2]; exact out_link w _ (Nat.le_refl _), by rw [h3]; exact out_bd w _ (Nat.le_refl _), by rw [h2]; exact link_dia⟩⟩
  | succ k ih =>
    rintro x x' e v e' v' ⟨e1, v1, h1, h2⟩ ⟨f1, u1, g1, g2⟩
    obtain ⟨_, z⟩ := ih 0 0 e1 v1 f1 u1 h1 g1
    obtain ⟨z1, z2, z3, z4, z5⟩ := z (by decide)
    subst z1
    subst z2
    exact rd_eq w z3 z4 z5 h2 g2
theorem run_pre {S : tkS} : ∀ m k x e v, RunP S (k + (m + 1)) x e v → ∃ e1 v1, RunP S k 0 e1 v1 := by
  intro m
  induction m with
  | zero => rintro k x e v ⟨e1, v1, h1, _⟩; exact ⟨e1, v1, h1⟩
  | succ m ih => rintro k x e v ⟨e1, v1, h1, _⟩; exact ih k 0 e1 v1 h1
theorem mrun_pre {S : tkS} : ∀ m k x e v, mRun S (k + (m + 1)) x e v → ∃ e1 v1, mRun S k 0 e1 v1 := by
  intro m
  induction m with
  | zero => rintro k x e v ⟨e1, v1, h1, _⟩; exact ⟨e1, v1, h1⟩
  | succ m ih => rintro k x e v ⟨e1, v1, h1, _⟩; exact ih k 0 e1 v1 h1
/-- both know alike -/
theorem wk_eq {S : tkS} (w : WF S) {x x' : Int32} {k k' : Nat} {e v e' v' : tkD} (h : WkP S x k e v) (h' : mWk S x' k' e' v') : x = x' ∧ k = k' ∧ (x ≠ 2 → e' = exM (sM S) e ∧ v' = v) := by
  obtain ⟨a1, a2, a3⟩ := h
  obtain ⟨b1, b2, b3⟩ := h'
  rcases Nat.lt_trichotomy k k' with q | q | q
  · rw [show k' = k + ((k' - k - 1) + 1) by omega] at b1
    obtain ⟨e1, v1, c1⟩ := mrun_pre _ _ _ _ _ b1
    have := (run_eq w _ _ _ _ _ _ _ a1 c1).1
    rcases a3 with z | z
    · exact absurd this z
    · omega
  · subst q
    obtain ⟨c1, c2⟩ := run_eq w _ _ _ _ _ _ _ a1 b1
    exact ⟨c1, rfl, fun z => ⟨(c2 z).1, (c2 z).2.1⟩⟩
  · rw [show k = k' + ((k - k' - 1) + 1) by omega] at a1
    obtain ⟨e1, v1, c1⟩ := run_pre _ _ _ _ _ a1
    have := (run_eq w _ _ _ _ _ _ _ c1 b1).1
    rcases b3 with z | z
    · exact absurd this.symm z
    · omega
