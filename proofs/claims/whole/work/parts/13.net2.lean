/-! giftInto and its like, in numbers -/
theorem sn_giftInto_loop {I : tkI} {J : tkJ} {R : Nat → Nat} {b : Nat} {Q : tkQ} {S : tkS} (hP : NetP (I 1 b) S) (w : WF S) {m : Nat} (hm : m < 16) : ∀ n g, g + n = sG S → Q (some (.inl (if gtF S m n g < sG S then nI (gtF S m n g) else -9))) (I, J, R) → tkDn tm_28 (2, [some (.inr (.inr (1, b, 0))), some (.inl (nI m)), some (.inl (nI g))], [], (I, J, R)) Q := by
  have hG := hP.g
  have hG6 := w.2.2.1
  have hL60 := w.2.1
  have hM16 := w.1
  intro n
  induction n with
  | zero =>
    intro g hg hQ
    show tkDn tm_28 (2, [some (.inr (.inr (1, b, 0))), some (.inl (nI m)), some (.inl (nI g))], [], (I, J, R)) _
    refine dn_run 3 (show tkDn tm_28 (7, [some (.inr (.inr (1, b, 0))), some (.inl (nI m)), some (.inl (nI g))], [.inl (I 1 b 0 2), .inl (nI g)], (I, J, R)) _ from ?_)
    refine dn_if rfl rfl rfl (fun (c : (I 1 b 0 2) ≤ (nI g)) => ?_) (fun (c : ¬ (I 1 b 0 2) ≤ (nI g)) => ?_)
    · show tkDn tm_28 (33, [some (.inr (.inr (1, b, 0))), some (.inl (nI m)), some (.inl (nI g))], [], (I, J, R)) _
      refine dn_run 1 (show tkDn tm_28 (35, [some (.inr (.inr (1, b, 0))), some (.inl (nI m)), some (.inl (nI g))], [.inl (-9)], (I, J, R)) _ from ?_)
      refine dn_ret0 rfl rfl rfl rfl ?_
      rw [show gtF S m 0 g = g from rfl, if_neg (by omega)] at hQ
      exact hQ
    · exact absurd (by rw [hG]; exact nI_le (by omega) (by omega)) c
  | succ n ih =>
    intro g hg hQ
    have h1 := hP.gl w (g := g) (by omega)
    have hl := w.gl (g := g) (by omega)
    have h2 := hP.en w hl
    have h3 := w.eM hl
    show tkDn tm_28 (2, [some (.inr (.inr (1, b, 0))), some (.inl (nI m)), some (.inl (nI g))], [], (I, J, R)) _
    refine dn_run 3 (show tkDn tm_28 (7, [some (.inr (.inr (1, b, 0))), some (.inl (nI m)), some (.inl (nI g))], [.inl (I 1 b 0 2), .inl (nI g)], (I, J, R)) _ from ?_)
    refine dn_if rfl rfl rfl (fun (c : (I 1 b 0 2) ≤ (nI g)) => ?_) (fun (c : ¬ (I 1 b 0 2) ≤ (nI g)) => ?_)
    · exact absurd c (by rw [hG]; exact nI_ge (by omega) (by omega))
    · show tkDn tm_28 (10, [some (.inr (.inr (1, b, 0))), some (.inl (nI m)), some (.inl (nI g))], [], (I, J, R)) _
      refine dn_run 8 (show (vp_in (nI g) 6) ∧ (vp_in (I 1 b 9 ((nI g).toNatClampNeg)) 60) ∧ tkDn tm_28 (22, [some (.inr (.inr (1, b, 0))), some (.inl (nI m)), some (.inl (nI g))], [.inl (nI m), .inl (I 1 b 5 ((I 1 b 9 ((nI g).toNatClampNeg)).toNatClampNeg))], (I, J, R)) _ from ⟨vp_in_nI (by omega) (by omega), by rw [h1]; exact vp_in_nI (by omega) (by omega), ?_⟩)
      refine dn_if rfl rfl rfl (fun (c2 : ¬ (I 1 b 5 ((I 1 b 9 ((nI g).toNatClampNeg)).toNatClampNeg)) = (nI m)) => ?_) (fun (c2 : (I 1 b 5 ((I 1 b 9 ((nI g).toNatClampNeg)).toNatClampNeg)) = (nI m)) => ?_)
      · show tkDn tm_28 (27, [some (.inr (.inr (1, b, 0))), some (.inl (nI m)), some (.inl (nI g))], [], (I, J, R)) _
        refine dn_run 2 (show tkDn tm_28 (2, [some (.inr (.inr (1, b, 0))), some (.inl (nI m)), some (.inl ((nI g) + 1))], [], (I, J, R)) _ from ?_)
        rw [nI_1]
        rw [h1, h2] at c2
        have c3 : ¬ se S (sgl S g) = m := fun q => c2 (by rw [q])
        rw [show gtF S m (n + 1) g = gtF S m n (g + 1) from if_neg c3] at hQ
        exact ih (g + 1) (by omega) hQ
      · show tkDn tm_28 (25, [some (.inr (.inr (1, b, 0))), some (.inl (nI m)), some (.inl (nI g))], [], (I, J, R)) _
        refine dn_run 1 (show tkDn tm_28 (26, [some (.inr (.inr (1, b, 0))), some (.inl (nI m)), some (.inl (nI g))], [.inl (nI g)], (I, J, R)) _ from ?_)
        refine dn_ret0 rfl rfl rfl rfl ?_
        rw [h1, h2] at c2
        have c3 : se S (sgl S g) = m := (nI_eq (by omega) (by omega)).mp c2
        rw [show gtF S m (n + 1) g = g from if_pos c3, if_pos (by omega)] at hQ
        exact hQ
theorem sn_giftInto {I : tkI} {J : tkJ} {R : Nat → Nat} {b : Nat} {Q : tkQ} {S : tkS} (hP : NetP (I 1 b) S) (w : WF S) {m : Nat} (hm : m < 16) (hQ : Q (some (.inl (if gt S m < sG S then nI (gt S m) else -9))) (I, J, R)) : tkDn tm_28 (0, [some (.inr (.inr (1, b, 0))), some (.inl (nI m)), none], [], (I, J, R)) Q := by
  refine dn_run 2 (show tkDn tm_28 (2, [some (.inr (.inr (1, b, 0))), some (.inl (nI m)), some (.inl 0)], [], (I, J, R)) _ from ?_)
  exact sn_giftInto_loop hP w hm (sG S) 0 (Nat.zero_add _) hQ
theorem sm_giftTo_loop {I : tkI} {J : tkJ} {R : Nat → Nat} {Q : tkQ} {S : tkS} (hP : NetP (I 6 0) S) (w : WF S) {m : Nat} (hm : m < 16) : ∀ n g, g + n = sG S → Q (some (.inl (if gtF S m n g < sG S then nI (gtF S m n g) else -1))) (I, J, R) → tkDn tm_129 (2, [some (.inr (.inr (6, 0, 0))), some (.inl (nI m)), some (.inl (nI g))], [], (I, J, R)) Q := by
  have hG := hP.g
  have hG6 := w.2.2.1
  have hL60 := w.2.1
  have hM16 := w.1
  intro n
  induction n with
  | zero =>
    intro g hg hQ
    show tkDn tm_129 (2, [some (.inr (.inr (6, 0, 0))), some (.inl (nI m)), some (.inl (nI g))], [], (I, J, R)) _
    refine dn_run 3 (show tkDn tm_129 (7, [some (.inr (.inr (6, 0, 0))), some (.inl (nI m)), some (.inl (nI g))], [.inl (I 6 0 0 2), .inl (nI g)], (I, J, R)) _ from ?_)
    refine dn_if rfl rfl rfl (fun (c : (I 6 0 0 2) ≤ (nI g)) => ?_) (fun (c : ¬ (I 6 0 0 2) ≤ (nI g)) => ?_)
    · show tkDn tm_129 (33, [some (.inr (.inr (6, 0, 0))), some (.inl (nI m)), some (.inl (nI g))], [], (I, J, R)) _
      refine dn_run 1 (show tkDn tm_129 (34, [some (.inr (.inr (6, 0, 0))), some (.inl (nI m)), some (.inl (nI g))], [.inl (-1)], (I, J, R)) _ from ?_)
      refine dn_ret0 rfl rfl rfl rfl ?_
      rw [show gtF S m 0 g = g from rfl, if_neg (by omega)] at hQ
      exact hQ
    · exact absurd (by rw [hG]; exact nI_le (by omega) (by omega)) c
  | succ n ih =>
    intro g hg hQ
    have h1 := hP.gl w (g := g) (by omega)
    have hl := w.gl (g := g) (by omega)
    have h2 := hP.en w hl
    have h3 := w.eM hl
    show tkDn tm_129 (2, [some (.inr (.inr (6, 0, 0))), some (.inl (nI m)), some (.inl (nI g))], [], (I, J, R)) _
    refine dn_run 3 (show tkDn tm_129 (7, [some (.inr (.inr (6, 0, 0))), some (.inl (nI m)), some (.inl (nI g))], [.inl (I 6 0 0 2), .inl (nI g)], (I, J, R)) _ from ?_)
    refine dn_if rfl rfl rfl (fun (c : (I 6 0 0 2) ≤ (nI g)) => ?_) (fun (c : ¬ (I 6 0 0 2) ≤ (nI g)) => ?_)
    · exact absurd c (by rw [hG]; exact nI_ge (by omega) (by omega))
    · show tkDn tm_129 (10, [some (.inr (.inr (6, 0, 0))), some (.inl (nI m)), some (.inl (nI g))], [], (I, J, R)) _
      refine dn_run 8 (show (vp_in (nI g) 6) ∧ (vp_in (I 6 0 9 ((nI g).toNatClampNeg)) 60) ∧ tkDn tm_129 (22, [some (.inr (.inr (6, 0, 0))), some (.inl (nI m)), some (.inl (nI g))], [.inl (nI m), .inl (I 6 0 5 ((I 6 0 9 ((nI g).toNatClampNeg)).toNatClampNeg))], (I, J, R)) _ from ⟨vp_in_nI (by omega) (by omega), by rw [h1]; exact vp_in_nI (by omega) (by omega), ?_⟩)
      refine dn_if rfl rfl rfl (fun (c2 : ¬ (I 6 0 5 ((I 6 0 9 ((nI g).toNatClampNeg)).toNatClampNeg)) = (nI m)) => ?_) (fun (c2 : (I 6 0 5 ((I 6 0 9 ((nI g).toNatClampNeg)).toNatClampNeg)) = (nI m)) => ?_)
      · show tkDn tm_129 (27, [some (.inr (.inr (6, 0, 0))), some (.inl (nI m)), some (.inl (nI g))], [], (I, J, R)) _
        refine dn_run 2 (show tkDn tm_129 (2, [some (.inr (.inr (6, 0, 0))), some (.inl (nI m)), some (.inl ((nI g) + 1))], [], (I, J, R)) _ from ?_)
        rw [nI_1]
        rw [h1, h2] at c2
        have c3 : ¬ se S (sgl S g) = m := fun q => c2 (by rw [q])
        rw [show gtF S m (n + 1) g = gtF S m n (g + 1) from if_neg c3] at hQ
        exact ih (g + 1) (by omega) hQ
      · show tkDn tm_129 (25, [some (.inr (.inr (6, 0, 0))), some (.inl (nI m)), some (.inl (nI g))], [], (I, J, R)) _
        refine dn_run 1 (show tkDn tm_129 (26, [some (.inr (.inr (6, 0, 0))), some (.inl (nI m)), some (.inl (nI g))], [.inl (nI g)], (I, J, R)) _ from ?_)
        refine dn_ret0 rfl rfl rfl rfl ?_
        rw [h1, h2] at c2
        have c3 : se S (sgl S g) = m := (nI_eq (by omega) (by omega)).mp c2
        rw [show gtF S m (n + 1) g = g from if_pos c3, if_pos (by omega)] at hQ
        exact hQ
theorem sm_giftTo {I : tkI} {J : tkJ} {R : Nat → Nat} {Q : tkQ} {S : tkS} (hP : NetP (I 6 0) S) (w : WF S) {m : Nat} (hm : m < 16) (hQ : Q (some (.inl (if gt S m < sG S then nI (gt S m) else -1))) (I, J, R)) : tkDn tm_129 (0, [some (.inr (.inr (6, 0, 0))), some (.inl (nI m)), none], [], (I, J, R)) Q := by
  refine dn_run 2 (show tkDn tm_129 (2, [some (.inr (.inr (6, 0, 0))), some (.inl (nI m)), some (.inl 0)], [], (I, J, R)) _ from ?_)
  exact sm_giftTo_loop hP w hm (sG S) 0 (Nat.zero_add _) hQ
theorem nI_n9 {n : Nat} (h : n < 1000) : ¬ nI n = -9 := fun q => by
  have h1 := congrArg Int32.toInt q
  rw [nI_toInt (by omega)] at h1
  have h2 : ((-9 : Int32)).toInt = -9 := by decide
  rw [h2] at h1
  omega
theorem sn_isGiven {I : tkI} {J : tkJ} {R : Nat → Nat} {b : Nat} {Q : tkQ} {S : tkS} (hP : NetP (I 1 b) S) (w : WF S) {m : Nat} (hm : m < 16) (hQ : Q (some (.inl (if gt S m < sG S then 1 else 0))) (I, J, R)) : tkDn tm_29 (0, [some (.inr (.inr (1, b, 0))), some (.inl (nI m))], [], (I, J, R)) Q := by
  have hG6 := w.2.2.1
  refine dn_run 2 (show tkDn tm_29 (2, [some (.inr (.inr (1, b, 0))), some (.inl (nI m))], [.inl (nI m), .inr (.inr (1, b, 0))], (I, J, R)) _ from ?_)
  refine dn_call rfl rfl rfl rfl rfl (sn_giftInto hP w hm ?_)
  show tkDn tm_29 (5, [some (.inr (.inr (1, b, 0))), some (.inl (nI m))], [.inl (if gt S m < sG S then nI (gt S m) else -9)], (I, J, R)) _
  refine dn_run 1 (show tkDn tm_29 (7, [some (.inr (.inr (1, b, 0))), some (.inl (nI m))], [.inl (-9), .inl (if gt S m < sG S then nI (gt S m) else -9)], (I, J, R)) _ from ?_)
  refine dn_if rfl rfl rfl (fun (c : (if gt S m < sG S then nI (gt S m) else -9) = (-9)) => ?_) (fun (c : ¬ (if gt S m < sG S then nI (gt S m) else -9) = (-9)) => ?_)
  · show tkDn tm_29 (14, [some (.inr (.inr (1, b, 0))), some (.inl (nI m))], [], (I, J, R)) _
    refine dn_run 1 (show tkDn tm_29 (15, [some (.inr (.inr (1, b, 0))), some (.inl (nI m))], [.inl 0], (I, J, R)) _ from ?_)
    refine dn_retb rfl rfl rfl rfl (by decide) ?_
    rw [if_neg (fun q => by rw [if_pos q] at c; exact nI_n9 (by omega) c)] at hQ
    exact hQ
  · show tkDn tm_29 (10, [some (.inr (.inr (1, b, 0))), some (.inl (nI m))], [], (I, J, R)) _
    refine dn_run 2 (show tkDn tm_29 (15, [some (.inr (.inr (1, b, 0))), some (.inl (nI m))], [.inl 1], (I, J, R)) _ from ?_)
    refine dn_retb rfl rfl rfl rfl (by decide) ?_
    rw [if_pos (by by_cases q : gt S m < sG S; exact q; exact absurd (if_neg q) c)] at hQ
    exact hQ
