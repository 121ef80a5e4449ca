/-! what the calls keep of the net -/
theorem app_ne {S : tkS} {a b j : Nat} {l h g : Int32} (q : j ≠ sL S) : sf (app S a b l h g) j = sf S j ∧ se (app S a b l h g) j = se S j ∧ slo (app S a b l h g) j = slo S j ∧ shi (app S a b l h g) j = shi S j ∧ sgn (app S a b l h g) j = sgn S j :=
  ⟨tk_u1_ne q, tk_u1_ne q, tk_u1_ne q, tk_u1_ne q, tk_u1_ne q⟩
theorem app_eq {S : tkS} {a b : Nat} {l h g : Int32} : sf (app S a b l h g) (sL S) = a ∧ se (app S a b l h g) (sL S) = b ∧ slo (app S a b l h g) (sL S) = l ∧ shi (app S a b l h g) (sL S) = h ∧ sgn (app S a b l h g) (sL S) = g :=
  ⟨tk_u1_same, tk_u1_same, tk_u1_same, tk_u1_same, tk_u1_same⟩
theorem fit_bnd {l h f : Int32} (q : fitB l h f) (hf : -100000 ≤ f.toInt) : -100000 ≤ l.toInt ∧ l.toInt ≤ h.toInt ∧ h.toInt ≤ 100000 := by
  obtain ⟨h1, h2, h3⟩ := q
  rw [Int32.le_iff_toInt_le] at h1 h2 h3
  have : (100000 : Int32).toInt = 100000 := by decide
  omega
theorem WF_app {S : tkS} (w : WF S) {a b : Nat} {l h : Int32} (ha : a < sM S) (hb : b < sM S) (hab : a ≠ b) (hl : -100000 ≤ l.toInt ∧ l.toInt ≤ h.toInt ∧ h.toInt ≤ 100000) (h60 : sL S < 60) : WF (app S a b l h (-9)) := by
  obtain ⟨w1, w2, w3, w4, w5, w6, w7, r, w8⟩ := w
  refine ⟨w1, by show sL S + 1 ≤ 60; omega, w3, fun j hj => ?_, fun g hg => ?_, fun g k hg hk => ?_, w7, r, fun g hg => ?_⟩
  · have hj : j < sL S + 1 := hj
    by_cases q : j = sL S
    · subst q
      obtain ⟨e1, e2, e3, e4, e5⟩ := app_eq (S := S) (a := a) (b := b) (l := l) (h := h) (g := -9)
      unfold bnd
      rw [e1, e2, e3, e4, e5]
      exact ⟨ha, hb, hab, hl, Or.inl rfl⟩
    · obtain ⟨e1, e2, e3, e4, e5⟩ := app_ne (S := S) (a := a) (b := b) (l := l) (h := h) (g := -9) q
      unfold bnd
      rw [e1, e2, e3, e4, e5]
      exact w4 j (by omega)
  · have hg : g < sG S := hg
    obtain ⟨v1, v2, v3⟩ := w5 g hg
    obtain ⟨e1, e2, e3, e4, e5⟩ := app_ne (S := S) (a := a) (b := b) (l := l) (h := h) (g := -9) (j := sgl S g) (by omega)
    show sgl S g < sL S + 1 ∧ sgn (app S a b l h (-9)) (sgl S g) = nI g ∧ 1 ≤ (slo (app S a b l h (-9)) (sgl S g)).toInt
    rw [e5, e3]
    exact ⟨by omega, v2, v3⟩
  · have hg : g < sG S := hg
    have hk : k < sG S := hk
    have q1 := (w5 g hg).1
    have q2 := (w5 k hk).1
    show se (app S a b l h (-9)) (sgl S g) = se (app S a b l h (-9)) (sgl S k) → g = k
    rw [(app_ne (by omega)).2.1, (app_ne (by omega)).2.1]
    exact w6 g k hg hk
  · have hg : g < sG S := hg
    have q1 := (w5 g hg).1
    show r (sf (app S a b l h (-9)) (sgl S g)) < r (se (app S a b l h (-9)) (sgl S g))
    rw [(app_ne (by omega)).1, (app_ne (by omega)).2.1]
    exact w8 g hg
theorem gt_none {S : tkS} {m : Nat} (h : ¬ gt S m < sG S) : ∀ g, g < sG S → se S (sgl S g) ≠ m := by
  intro g hg
  have := gt_le S m
  exact gtF_none (S := S) (m := m) (n := sG S) (g := 0) (by unfold gt at this h; omega) g (by omega) (by omega)
theorem cf_up {S : tkS} {k : Nat} : ∀ n f m, up S n m = some k → n < f → cfF S k f m = true := by
  intro n
  induction n with
  | zero =>
    intro f m h hf
    cases f with
    | zero => omega
    | succ f => cases h; exact if_pos rfl
  | succ n ih =>
    intro f m h hf
    cases f with
    | zero => omega
    | succ f =>
      unfold up at h
      split at h
      · rename_i q
        unfold cfF
        split
        · rfl
        · exact ih f _ h (by omega)
      · cases h
theorem WF_gift {S : tkS} (w : WF S) {a b : Nat} {l h : Int32} (ha : a < sM S) (hb : b < sM S) (hab : a ≠ b) (hl : 1 ≤ l.toInt ∧ l.toInt ≤ h.toInt ∧ h.toInt ≤ 100000) (h60 : sL S < 60) (h6 : sG S < 6) (hgt : ¬ gt S b < sG S) (hcf : ¬ cfF S b 7 a = true) : WF (app (addG S) a b l h (nI (sG S))) := by
  have wS := w
  obtain ⟨w1, w2, w3, w4, w5, w6, w7, r, w8⟩ := w
  have gl_ne : ∀ g, g < sG S → sgl (app (addG S) a b l h (nI (sG S))) g = sgl S g := fun g hg => tk_u1_ne (by omega)
  have gl_eq : sgl (app (addG S) a b l h (nI (sG S))) (sG S) = sL S := tk_u1_same
  have A : ∀ j, j ≠ sL S → sf (app (addG S) a b l h (nI (sG S))) j = sf S j ∧ se (app (addG S) a b l h (nI (sG S))) j = se S j ∧ slo (app (addG S) a b l h (nI (sG S))) j = slo S j ∧ shi (app (addG S) a b l h (nI (sG S))) j = shi S j ∧ sgn (app (addG S) a b l h (nI (sG S))) j = sgn S j := fun j (q : j ≠ sL S) => app_ne (S := addG S) (a := a) (b := b) (l := l) (h := h) (g := nI (sG S)) (j := j) q
  have B : _ := app_eq (S := addG S) (a := a) (b := b) (l := l) (h := h) (g := nI (sG S))
  have B : sf (app (addG S) a b l h (nI (sG S))) (sL S) = a ∧ se (app (addG S) a b l h (nI (sG S))) (sL S) = b ∧ slo (app (addG S) a b l h (nI (sG S))) (sL S) = l ∧ shi (app (addG S) a b l h (nI (sG S))) (sL S) = h ∧ sgn (app (addG S) a b l h (nI (sG S))) (sL S) = nI (sG S) := B
  have hfin := gt_none hgt
  -- ranks: what comes from b is raised
  have hno : ¬ ∃ n, up S n a = some b := by
    rintro ⟨n, hn⟩
    have := up_le wS hn
    exact hcf (cf_up n 7 a hn (by omega))
  refine ⟨w1, by show sL S + 1 ≤ 60; omega, by show sG S + 1 ≤ 6; omega, fun j hj => ?_, fun g hg => ?_, fun g k hg hk => ?_, fun g k hgk hk => ?_, ?_⟩
  · have hj : j < sL S + 1 := hj
    by_cases q : j = sL S
    · subst q
      unfold bnd
      rw [B.1, B.2.1, B.2.2.1, B.2.2.2.1, B.2.2.2.2]
      exact ⟨ha, hb, hab, ⟨by omega, by omega, by omega⟩, Or.inr ⟨sG S, Nat.lt_succ_self _, rfl, gl_eq⟩⟩
    · obtain ⟨e1, e2, e3, e4, e5⟩ := A j q
      unfold bnd
      rw [e1, e2, e3, e4, e5]
      obtain ⟨v1, v2, v3, v4, v5⟩ := w4 j (by omega)
      refine ⟨v1, v2, v3, v4, ?_⟩
      rcases v5 with z | ⟨g, hg, z1, z2⟩
      · exact Or.inl z
      · exact Or.inr ⟨g, Nat.lt_succ_of_lt hg, z1, (gl_ne g hg).trans z2⟩
  · have hg : g < sG S + 1 := hg
    by_cases q : g = sG S
    · subst q
      rw [gl_eq, B.2.2.2.2, B.2.2.1]
      exact ⟨Nat.lt_succ_self _, rfl, hl.1⟩
    · obtain ⟨v1, v2, v3⟩ := w5 g (by omega)
      obtain ⟨e1, e2, e3, e4, e5⟩ := A (sgl S g) (by omega)
      rw [gl_ne g (by omega), e5, e3]
      exact ⟨Nat.lt_succ_of_lt v1, v2, v3⟩
  · have hg : g < sG S + 1 := hg
    have hk : k < sG S + 1 := hk
    by_cases q : g = sG S
    · subst q
      by_cases q2 : k = sG S
      · subst q2; exact fun _ => rfl
      · have := (w5 k (by omega)).1
        rw [gl_eq, B.2.1, gl_ne k (by omega), (A (sgl S k) (by omega)).2.1]
        exact fun z => absurd z.symm (hfin k (by omega))
    · have := (w5 g (by omega)).1
      by_cases q2 : k = sG S
      · subst q2
        rw [gl_eq, B.2.1, gl_ne g (by omega), (A (sgl S g) (by omega)).2.1]
        exact fun z => absurd z (hfin g (by omega))
      · have := (w5 k (by omega)).1
        rw [gl_ne g (by omega), (A (sgl S g) (by omega)).2.1, gl_ne k (by omega), (A (sgl S k) (by omega)).2.1]
        exact w6 g k (by omega) (by omega)
  · have hk : k < sG S + 1 := hk
    have := (w5 g (by omega)).1
    rw [gl_ne g (by omega)]
    by_cases q2 : k = sG S
    · subst q2; rw [gl_eq]; exact this
    · rw [gl_ne k (by omega)]; exact w7 g k hgk (by omega)
  · refine ⟨fun m => @ite _ (∃ n, up S n m = some b) (Classical.propDecidable _) (r m + (r a + 1)) (r m), fun g hg => ?_⟩
    have hg : g < sG S + 1 := hg
    dsimp only
    by_cases q : g = sG S
    · subst q
      rw [gl_eq, B.1, B.2.1, if_neg hno, if_pos ⟨0, rfl⟩]
      omega
    · have hg' : g < sG S := by omega
      have hgl := (w5 g hg').1
      rw [gl_ne g hg', (A (sgl S g) (by omega)).1, (A (sgl S g) (by omega)).2.1]
      have hlt := w8 g hg'
      by_cases c : ∃ n, up S n (sf S (sgl S g)) = some b
      · have c2 : ∃ n, up S n (se S (sgl S g)) = some b := by
          obtain ⟨n, hn⟩ := c
          refine ⟨n + 1, ?_⟩
          have hge : gt S (se S (sgl S g)) < sG S := Classical.byContradiction fun z => gt_none z g hg' rfl
          have : gt S (se S (sgl S g)) = g := w6 _ _ hge hg' (gt_lt hge)
          unfold up
          rw [if_pos hge, this]
          exact hn
        rw [if_pos c, if_pos c2]
        omega
      · rw [if_neg c]
        by_cases c2 : ∃ n, up S n (se S (sgl S g)) = some b
        · rw [if_pos c2]; omega
        · rw [if_neg c2]; exact hlt
theorem WF_mom {S : tkS} (w : WF S) {n : Nat} (h : sM S + n ≤ 16) : WF (sM S + n, S.2) := by
  obtain ⟨w1, w2, w3, w4, w5, w6, w7, w8⟩ := w
  refine ⟨h, w2, w3, fun j hj => ?_, w5, w6, w7, w8⟩
  obtain ⟨v1, v2, v3⟩ := w4 j hj
  exact ⟨Nat.lt_of_lt_of_le v1 (Nat.le_add_right _ _), Nat.lt_of_lt_of_le v2 (Nat.le_add_right _ _), v3⟩
theorem WF_undo {S : tkS} (w : WF S) (h : sL S ≠ 0) : WF (sM S, sL S - 1, (if sgn S (sL S - 1) = -9 then sG S else sG S - 1), S.2.2.2) := by
  obtain ⟨w1, w2, w3, w4, w5, w6, w7, r, w8⟩ := w
  obtain ⟨G, hG⟩ : ∃ G, G = (if sgn S (sL S - 1) = -9 then sG S else sG S - 1) := ⟨_, rfl⟩
  rw [← hG]
  have hle : G ≤ sG S := by rw [hG]; split <;> omega
  have hlt : ∀ g, g < G → sgl S g < sL S - 1 := by
    intro g hg
    have h1 := (w5 g (by omega)).1
    have h2 := (w5 g (by omega)).2.1
    rcases Nat.lt_or_ge (sgl S g) (sL S - 1) with z | z
    · exact z
    · have z : sgl S g = sL S - 1 := by omega
      rw [z] at h2
      have hne : ¬ sgn S (sL S - 1) = -9 := by
        rw [h2]
        intro y
        have : nI g < 0 := by rw [y]; decide
        exact nI_pos (by omega) this
      rw [if_neg hne] at hG
      have := w7 g (sG S - 1) (by omega) (by omega)
      have := (w5 (sG S - 1) (by omega)).1
      omega
  have hcov : ∀ g, g < sG S → sgl S g < sL S - 1 → g < G := by
    intro g hg h1
    by_cases c : sgn S (sL S - 1) = -9
    · rw [if_pos c] at hG; omega
    · rw [if_neg c] at hG
      rcases (w4 (sL S - 1) (by omega)).2.2.2.2 with z | ⟨k, hk, z1, z2⟩
      · exact absurd z c
      · rcases Nat.lt_or_ge g (sG S - 1) with y | y
        · omega
        · have y : g = sG S - 1 := by omega
          rcases Nat.lt_or_ge k g with u | u
          · have := w7 k g u hg; omega
          · have : k = g := by omega
            subst this; omega
  refine ⟨w1, by show sL S - 1 ≤ 60; omega, by show G ≤ 6; omega, fun j hj => ?_, fun g hg => ?_, fun g k hg hk => ?_, fun g k hgk hk => ?_, r, fun g hg => ?_⟩
  · have hj : j < sL S - 1 := hj
    obtain ⟨v1, v2, v3, v4, v5⟩ := w4 j (by omega)
    refine ⟨v1, v2, v3, v4, ?_⟩
    rcases v5 with z | ⟨g, hg, z1, z2⟩
    · exact Or.inl z
    · exact Or.inr ⟨g, hcov g hg (by omega), z1, z2⟩
  · have hg : g < G := hg
    obtain ⟨v1, v2, v3⟩ := w5 g (by omega)
    exact ⟨hlt g hg, v2, v3⟩
  · have hg : g < G := hg
    have hk : k < G := hk
    exact w6 g k (by omega) (by omega)
  · have hk : k < G := hk
    exact w7 g k hgk (by omega)
  · have hg : g < G := hg
    exact w8 g (by omega)
theorem WF_tight {S : tkS} (w : WF S) {k : Nat} {l h : Int32} (hk : k < sL S) (hl : -100000 ≤ l.toInt ∧ l.toInt ≤ h.toInt ∧ h.toInt ≤ 100000) (h1 : ¬ sgn S k = -9 → 1 ≤ l.toInt) : WF (sM S, sL S, sG S, sf S, se S, tk_u1 (slo S) k l, tk_u1 (shi S) k h, sgn S, sgl S) := by
  obtain ⟨w1, w2, w3, w4, w5, w6, w7, w8⟩ := w
  refine ⟨w1, w2, w3, fun j hj => ?_, fun g hg => ?_, w6, w7, w8⟩
  · obtain ⟨v1, v2, v3, v4, v5⟩ := w4 j hj
    refine ⟨v1, v2, v3, ?_, v5⟩
    show -100000 ≤ (tk_u1 (slo S) k l j).toInt ∧ (tk_u1 (slo S) k l j).toInt ≤ (tk_u1 (shi S) k h j).toInt ∧ (tk_u1 (shi S) k h j).toInt ≤ 100000
    by_cases q : j = k
    · subst q; rw [tk_u1_same, tk_u1_same]; exact hl
    · rw [tk_u1_ne q, tk_u1_ne q]; exact v4
  · have hg : g < sG S := hg
    obtain ⟨v1, v2, v3⟩ := w5 g hg
    refine ⟨v1, v2, ?_⟩
    show 1 ≤ (tk_u1 (slo S) k l (sgl S g)).toInt
    by_cases q : sgl S g = k
    · rw [q, tk_u1_same]
      refine h1 (fun y => ?_)
      rw [← q, v2] at y
      have : nI g < 0 := by rw [y]; decide
      exact nI_pos (by omega) this
    · rw [tk_u1_ne q]; exact v3
theorem WF_opMom {S : tkS} (w : WF S) (n : Int32) : WF (opMom S n).2 := by
  unfold opMom
  split
  · exact w
  · rename_i h1
    split
    · exact w
    · rename_i h2
      refine WF_mom w ?_
      have hM := w.1
      have a1 : ¬ n < 1 := fun z => h1 (Or.inl z)
      have a2 : ¬ 16 < n := fun z => h1 (Or.inr z)
      obtain ⟨j, hj, rfl⟩ := nI_of (show ¬ n < 0 from fun z => a1 (by rw [Int32.lt_iff_toInt_lt] at *; have : (1 : Int32).toInt = 1 := by decide
                                                                      have : (0 : Int32).toInt = 0 := by decide
                                                                      omega))
      rw [nI_clamp hj]
      have a3 : ¬ nI 16 < nI j := a2
      have a3 : j ≤ 16 := Nat.not_lt.mp (fun z => a3 ((nI_ltI (by omega) hj).mpr z))
      rw [nI_add] at h2
      exact Nat.not_lt.mp (fun z => h2 ((nI_ltI (a := 16) (by omega) (by omega)).mpr z))
theorem WF_opWish {S : tkS} (w : WF S) (a b l h : Int32) : WF (opWish S a b l h).2 := by
  unfold opWish
  split
  · rename_i q
    split
    · exact w
    · rename_i h60
      obtain ⟨q1, q2, q3, q4⟩ := rfF_0 q
      obtain ⟨i, hi, rfl, ei⟩ := hasM_nat w.1 q1
      obtain ⟨j, hj, rfl, ej⟩ := hasM_nat w.1 q2
      rw [ei, ej]
      exact WF_app w hi hj (fun z => q3 (by rw [z])) (fit_bnd q4 (by decide)) (by omega)
  · exact w
theorem WF_opGift {S : tkS} (w : WF S) (a b l h : Int32) : WF (opGift S a b l h).2 := by
  unfold opGift
  split
  · rename_i q
    split
    · exact w
    · rename_i hc
      split
      · exact w
      · rename_i h60
        obtain ⟨q1, q2, q3, q4⟩ := rfF_0 q
        obtain ⟨i, hi, rfl, ei⟩ := hasM_nat w.1 q1
        obtain ⟨j, hj, rfl, ej⟩ := hasM_nat w.1 q2
        rw [ej, ei] at hc
        rw [ei, ej]
        have hb := fit_bnd q4 (by decide)
        have h1 := q4.1
        rw [Int32.le_iff_toInt_le] at h1
        have : (1 : Int32).toInt = 1 := by decide
        exact WF_gift w hi hj (fun z => q3 (by rw [z])) ⟨by omega, hb.2⟩ (by omega) (by omega) (fun z => hc (Or.inl z)) (fun z => hc (Or.inr z))
  · exact w
theorem WF_opUndo {S : tkS} (w : WF S) : WF (opUndo S).2 := by
  unfold opUndo
  split
  · exact w
  · rename_i h; exact WF_undo w h
theorem WF_opTight {S : tkS} (w : WF S) (k l h : Int32) : WF (opTight S k l h).2 := by
  unfold opTight
  by_cases q : 0 ≤ k ∧ k < nI (sL S)
  · rw [if_pos q]
    by_cases q4 : fitB l h (if sgn S k.toNatClampNeg = -9 then -100000 else 1)
    · rw [if_pos q4]
      obtain ⟨j, hj, rfl⟩ := hasL_nat w.2.1 q
      have hL := w.2.1
      rw [nI_clamp (by omega)] at *
      refine WF_tight w hj (fit_bnd q4 (by split <;> decide)) (fun z => ?_)
      have h1 := q4.1
      rw [if_neg z, Int32.le_iff_toInt_le] at h1
      have : (1 : Int32).toInt = 1 := by decide
      omega
    · rw [if_neg q4]; exact w
  · rw [if_neg q]; exact w
