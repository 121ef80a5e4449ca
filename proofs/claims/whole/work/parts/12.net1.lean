/-! Net: its methods, one by one -/
theorem sn_momentCount {I : tkI} {J : tkJ} {R : Nat → Nat} {b : Nat} {Q : tkQ} (hQ : Q (some (.inl (I 1 b 0 0))) (I, J, R)) : tkDn tm_12 (0, [some (.inr (.inr (1, b, 0)))], [], (I, J, R)) Q := by
  refine dn_run 2 (show tkDn tm_12 (4, [some (.inr (.inr (1, b, 0)))], [.inl (I 1 b 0 0)], (I, J, R)) _ from ?_)
  refine dn_ret0 rfl rfl rfl rfl ?_
  exact hQ
theorem sn_linkCount {I : tkI} {J : tkJ} {R : Nat → Nat} {b : Nat} {Q : tkQ} (hQ : Q (some (.inl (I 1 b 0 1))) (I, J, R)) : tkDn tm_13 (0, [some (.inr (.inr (1, b, 0)))], [], (I, J, R)) Q := by
  refine dn_run 2 (show tkDn tm_13 (4, [some (.inr (.inr (1, b, 0)))], [.inl (I 1 b 0 1)], (I, J, R)) _ from ?_)
  refine dn_ret0 rfl rfl rfl rfl ?_
  exact hQ
theorem sn_giftCount {I : tkI} {J : tkJ} {R : Nat → Nat} {b : Nat} {Q : tkQ} (hQ : Q (some (.inl (I 1 b 0 2))) (I, J, R)) : tkDn tm_14 (0, [some (.inr (.inr (1, b, 0)))], [], (I, J, R)) Q := by
  refine dn_run 2 (show tkDn tm_14 (4, [some (.inr (.inr (1, b, 0)))], [.inl (I 1 b 0 2)], (I, J, R)) _ from ?_)
  refine dn_ret0 rfl rfl rfl rfl ?_
  exact hQ
theorem sn_linkFrom {I : tkI} {J : tkJ} {R : Nat → Nat} {b : Nat} {Q : tkQ} {l : Int32} (hl : vp_in l 60) (hQ : Q (some (.inl (I 1 b 4 l.toNatClampNeg))) (I, J, R)) : tkDn tm_19 (0, [some (.inr (.inr (1, b, 0))), some (.inl l)], [], (I, J, R)) Q := by
  refine dn_run 4 (show (vp_in l 60) ∧ tkDn tm_19 (6, [some (.inr (.inr (1, b, 0))), some (.inl l)], [.inl (I 1 b 4 l.toNatClampNeg)], (I, J, R)) _ from ⟨hl, ?_⟩)
  refine dn_ret0 rfl rfl rfl rfl ?_
  exact hQ
theorem sn_linkTo {I : tkI} {J : tkJ} {R : Nat → Nat} {b : Nat} {Q : tkQ} {l : Int32} (hl : vp_in l 60) (hQ : Q (some (.inl (I 1 b 5 l.toNatClampNeg))) (I, J, R)) : tkDn tm_20 (0, [some (.inr (.inr (1, b, 0))), some (.inl l)], [], (I, J, R)) Q := by
  refine dn_run 4 (show (vp_in l 60) ∧ tkDn tm_20 (6, [some (.inr (.inr (1, b, 0))), some (.inl l)], [.inl (I 1 b 5 l.toNatClampNeg)], (I, J, R)) _ from ⟨hl, ?_⟩)
  refine dn_ret0 rfl rfl rfl rfl ?_
  exact hQ
theorem sn_linkLow {I : tkI} {J : tkJ} {R : Nat → Nat} {b : Nat} {Q : tkQ} {l : Int32} (hl : vp_in l 60) (hQ : Q (some (.inl (I 1 b 6 l.toNatClampNeg))) (I, J, R)) : tkDn tm_21 (0, [some (.inr (.inr (1, b, 0))), some (.inl l)], [], (I, J, R)) Q := by
  refine dn_run 4 (show (vp_in l 60) ∧ tkDn tm_21 (6, [some (.inr (.inr (1, b, 0))), some (.inl l)], [.inl (I 1 b 6 l.toNatClampNeg)], (I, J, R)) _ from ⟨hl, ?_⟩)
  refine dn_ret0 rfl rfl rfl rfl ?_
  exact hQ
theorem sn_linkHigh {I : tkI} {J : tkJ} {R : Nat → Nat} {b : Nat} {Q : tkQ} {l : Int32} (hl : vp_in l 60) (hQ : Q (some (.inl (I 1 b 7 l.toNatClampNeg))) (I, J, R)) : tkDn tm_22 (0, [some (.inr (.inr (1, b, 0))), some (.inl l)], [], (I, J, R)) Q := by
  refine dn_run 4 (show (vp_in l 60) ∧ tkDn tm_22 (6, [some (.inr (.inr (1, b, 0))), some (.inl l)], [.inl (I 1 b 7 l.toNatClampNeg)], (I, J, R)) _ from ⟨hl, ?_⟩)
  refine dn_ret0 rfl rfl rfl rfl ?_
  exact hQ
theorem sn_giftFrom {I : tkI} {J : tkJ} {R : Nat → Nat} {b : Nat} {Q : tkQ} {g : Int32} (hg : vp_in g 6) (hl : vp_in (I 1 b 9 g.toNatClampNeg) 60) (hQ : Q (some (.inl (I 1 b 4 (I 1 b 9 g.toNatClampNeg).toNatClampNeg))) (I, J, R)) : tkDn tm_23 (0, [some (.inr (.inr (1, b, 0))), some (.inl g)], [], (I, J, R)) Q := by
  refine dn_run 7 (show (vp_in g 6) ∧ (vp_in (I 1 b 9 g.toNatClampNeg) 60) ∧ tkDn tm_23 (11, [some (.inr (.inr (1, b, 0))), some (.inl g)], [.inl (I 1 b 4 ((I 1 b 9 g.toNatClampNeg).toNatClampNeg))], (I, J, R)) _ from ⟨hg, hl, ?_⟩)
  refine dn_ret0 rfl rfl rfl rfl ?_
  exact hQ
theorem sn_giftTo {I : tkI} {J : tkJ} {R : Nat → Nat} {b : Nat} {Q : tkQ} {g : Int32} (hg : vp_in g 6) (hl : vp_in (I 1 b 9 g.toNatClampNeg) 60) (hQ : Q (some (.inl (I 1 b 5 (I 1 b 9 g.toNatClampNeg).toNatClampNeg))) (I, J, R)) : tkDn tm_24 (0, [some (.inr (.inr (1, b, 0))), some (.inl g)], [], (I, J, R)) Q := by
  refine dn_run 7 (show (vp_in g 6) ∧ (vp_in (I 1 b 9 g.toNatClampNeg) 60) ∧ tkDn tm_24 (11, [some (.inr (.inr (1, b, 0))), some (.inl g)], [.inl (I 1 b 5 ((I 1 b 9 g.toNatClampNeg).toNatClampNeg))], (I, J, R)) _ from ⟨hg, hl, ?_⟩)
  refine dn_ret0 rfl rfl rfl rfl ?_
  exact hQ
theorem sn_giftLow {I : tkI} {J : tkJ} {R : Nat → Nat} {b : Nat} {Q : tkQ} {g : Int32} (hg : vp_in g 6) (hl : vp_in (I 1 b 9 g.toNatClampNeg) 60) (hQ : Q (some (.inl (I 1 b 6 (I 1 b 9 g.toNatClampNeg).toNatClampNeg))) (I, J, R)) : tkDn tm_25 (0, [some (.inr (.inr (1, b, 0))), some (.inl g)], [], (I, J, R)) Q := by
  refine dn_run 7 (show (vp_in g 6) ∧ (vp_in (I 1 b 9 g.toNatClampNeg) 60) ∧ tkDn tm_25 (11, [some (.inr (.inr (1, b, 0))), some (.inl g)], [.inl (I 1 b 6 ((I 1 b 9 g.toNatClampNeg).toNatClampNeg))], (I, J, R)) _ from ⟨hg, hl, ?_⟩)
  refine dn_ret0 rfl rfl rfl rfl ?_
  exact hQ
theorem sn_giftHigh {I : tkI} {J : tkJ} {R : Nat → Nat} {b : Nat} {Q : tkQ} {g : Int32} (hg : vp_in g 6) (hl : vp_in (I 1 b 9 g.toNatClampNeg) 60) (hQ : Q (some (.inl (I 1 b 7 (I 1 b 9 g.toNatClampNeg).toNatClampNeg))) (I, J, R)) : tkDn tm_26 (0, [some (.inr (.inr (1, b, 0))), some (.inl g)], [], (I, J, R)) Q := by
  refine dn_run 7 (show (vp_in g 6) ∧ (vp_in (I 1 b 9 g.toNatClampNeg) 60) ∧ tkDn tm_26 (11, [some (.inr (.inr (1, b, 0))), some (.inl g)], [.inl (I 1 b 7 ((I 1 b 9 g.toNatClampNeg).toNatClampNeg))], (I, J, R)) _ from ⟨hg, hl, ?_⟩)
  refine dn_ret0 rfl rfl rfl rfl ?_
  exact hQ
theorem sn_hasMoment {I : tkI} {J : tkJ} {R : Nat → Nat} {b : Nat} {Q : tkQ} {x : Int32} (hQ : Q (some (.inl (if 0 ≤ x ∧ x < I 1 b 0 0 then 1 else 0))) (I, J, R)) : tkDn tm_15 (0, [some (.inr (.inr (1, b, 0))), some (.inl x)], [], (I, J, R)) Q := by
  refine dn_run 1 (show tkDn tm_15 (1, [some (.inr (.inr (1, b, 0))), some (.inl x)], [.inl x], (I, J, R)) _ from ?_)
  refine dn_if rfl rfl rfl (fun (c1 : x < 0) => ?_) (fun (c1 : ¬ x < 0) => ?_)
  · show tkDn tm_15 (16, [some (.inr (.inr (1, b, 0))), some (.inl x)], [], (I, J, R)) _
    refine dn_run 1 (show tkDn tm_15 (17, [some (.inr (.inr (1, b, 0))), some (.inl x)], [.inl 0], (I, J, R)) _ from ?_)
    refine dn_retb rfl rfl rfl rfl (by decide) ?_
    rw [if_neg (fun q => absurd c1 (Int32.not_lt.mpr q.1))] at hQ; exact hQ
  · show tkDn tm_15 (4, [some (.inr (.inr (1, b, 0))), some (.inl x)], [], (I, J, R)) _
    refine dn_run 3 (show tkDn tm_15 (9, [some (.inr (.inr (1, b, 0))), some (.inl x)], [.inl (I 1 b 0 0), .inl x], (I, J, R)) _ from ?_)
    refine dn_if rfl rfl rfl (fun (c2 : (I 1 b 0 0) ≤ x) => ?_) (fun (c2 : ¬ (I 1 b 0 0) ≤ x) => ?_)
    · show tkDn tm_15 (16, [some (.inr (.inr (1, b, 0))), some (.inl x)], [], (I, J, R)) _
      refine dn_run 1 (show tkDn tm_15 (17, [some (.inr (.inr (1, b, 0))), some (.inl x)], [.inl 0], (I, J, R)) _ from ?_)
      refine dn_retb rfl rfl rfl rfl (by decide) ?_
      rw [if_neg (fun q => absurd q.2 (Int32.not_lt.mpr c2))] at hQ; exact hQ
    · show tkDn tm_15 (12, [some (.inr (.inr (1, b, 0))), some (.inl x)], [], (I, J, R)) _
      refine dn_run 2 (show tkDn tm_15 (17, [some (.inr (.inr (1, b, 0))), some (.inl x)], [.inl 1], (I, J, R)) _ from ?_)
      refine dn_retb rfl rfl rfl rfl (by decide) ?_
      rw [if_pos ⟨Int32.not_lt.mp c1, Int32.not_le.mp c2⟩] at hQ; exact hQ
theorem sn_hasLink {I : tkI} {J : tkJ} {R : Nat → Nat} {b : Nat} {Q : tkQ} {x : Int32} (hQ : Q (some (.inl (if 0 ≤ x ∧ x < I 1 b 0 1 then 1 else 0))) (I, J, R)) : tkDn tm_16 (0, [some (.inr (.inr (1, b, 0))), some (.inl x)], [], (I, J, R)) Q := by
  refine dn_run 1 (show tkDn tm_16 (1, [some (.inr (.inr (1, b, 0))), some (.inl x)], [.inl x], (I, J, R)) _ from ?_)
  refine dn_if rfl rfl rfl (fun (c1 : x < 0) => ?_) (fun (c1 : ¬ x < 0) => ?_)
  · show tkDn tm_16 (16, [some (.inr (.inr (1, b, 0))), some (.inl x)], [], (I, J, R)) _
    refine dn_run 1 (show tkDn tm_16 (17, [some (.inr (.inr (1, b, 0))), some (.inl x)], [.inl 0], (I, J, R)) _ from ?_)
    refine dn_retb rfl rfl rfl rfl (by decide) ?_
    rw [if_neg (fun q => absurd c1 (Int32.not_lt.mpr q.1))] at hQ; exact hQ
  · show tkDn tm_16 (4, [some (.inr (.inr (1, b, 0))), some (.inl x)], [], (I, J, R)) _
    refine dn_run 3 (show tkDn tm_16 (9, [some (.inr (.inr (1, b, 0))), some (.inl x)], [.inl (I 1 b 0 1), .inl x], (I, J, R)) _ from ?_)
    refine dn_if rfl rfl rfl (fun (c2 : (I 1 b 0 1) ≤ x) => ?_) (fun (c2 : ¬ (I 1 b 0 1) ≤ x) => ?_)
    · show tkDn tm_16 (16, [some (.inr (.inr (1, b, 0))), some (.inl x)], [], (I, J, R)) _
      refine dn_run 1 (show tkDn tm_16 (17, [some (.inr (.inr (1, b, 0))), some (.inl x)], [.inl 0], (I, J, R)) _ from ?_)
      refine dn_retb rfl rfl rfl rfl (by decide) ?_
      rw [if_neg (fun q => absurd q.2 (Int32.not_lt.mpr c2))] at hQ; exact hQ
    · show tkDn tm_16 (12, [some (.inr (.inr (1, b, 0))), some (.inl x)], [], (I, J, R)) _
      refine dn_run 2 (show tkDn tm_16 (17, [some (.inr (.inr (1, b, 0))), some (.inl x)], [.inl 1], (I, J, R)) _ from ?_)
      refine dn_retb rfl rfl rfl rfl (by decide) ?_
      rw [if_pos ⟨Int32.not_lt.mp c1, Int32.not_le.mp c2⟩] at hQ; exact hQ
theorem sn_hasGift {I : tkI} {J : tkJ} {R : Nat → Nat} {b : Nat} {Q : tkQ} {x : Int32} (hQ : Q (some (.inl (if 0 ≤ x ∧ x < I 1 b 0 2 then 1 else 0))) (I, J, R)) : tkDn tm_17 (0, [some (.inr (.inr (1, b, 0))), some (.inl x)], [], (I, J, R)) Q := by
  refine dn_run 1 (show tkDn tm_17 (1, [some (.inr (.inr (1, b, 0))), some (.inl x)], [.inl x], (I, J, R)) _ from ?_)
  refine dn_if rfl rfl rfl (fun (c1 : x < 0) => ?_) (fun (c1 : ¬ x < 0) => ?_)
  · show tkDn tm_17 (16, [some (.inr (.inr (1, b, 0))), some (.inl x)], [], (I, J, R)) _
    refine dn_run 1 (show tkDn tm_17 (17, [some (.inr (.inr (1, b, 0))), some (.inl x)], [.inl 0], (I, J, R)) _ from ?_)
    refine dn_retb rfl rfl rfl rfl (by decide) ?_
    rw [if_neg (fun q => absurd c1 (Int32.not_lt.mpr q.1))] at hQ; exact hQ
  · show tkDn tm_17 (4, [some (.inr (.inr (1, b, 0))), some (.inl x)], [], (I, J, R)) _
    refine dn_run 3 (show tkDn tm_17 (9, [some (.inr (.inr (1, b, 0))), some (.inl x)], [.inl (I 1 b 0 2), .inl x], (I, J, R)) _ from ?_)
    refine dn_if rfl rfl rfl (fun (c2 : (I 1 b 0 2) ≤ x) => ?_) (fun (c2 : ¬ (I 1 b 0 2) ≤ x) => ?_)
    · show tkDn tm_17 (16, [some (.inr (.inr (1, b, 0))), some (.inl x)], [], (I, J, R)) _
      refine dn_run 1 (show tkDn tm_17 (17, [some (.inr (.inr (1, b, 0))), some (.inl x)], [.inl 0], (I, J, R)) _ from ?_)
      refine dn_retb rfl rfl rfl rfl (by decide) ?_
      rw [if_neg (fun q => absurd q.2 (Int32.not_lt.mpr c2))] at hQ; exact hQ
    · show tkDn tm_17 (12, [some (.inr (.inr (1, b, 0))), some (.inl x)], [], (I, J, R)) _
      refine dn_run 2 (show tkDn tm_17 (17, [some (.inr (.inr (1, b, 0))), some (.inl x)], [.inl 1], (I, J, R)) _ from ?_)
      refine dn_retb rfl rfl rfl rfl (by decide) ?_
      rw [if_pos ⟨Int32.not_lt.mp c1, Int32.not_le.mp c2⟩] at hQ; exact hQ
