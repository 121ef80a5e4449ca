/-! Net: what changes it -/
theorem sn_fits {I : tkI} {J : tkJ} {R : Nat → Nat} {Q : tkQ} {l h f : Int32} (hQ : Q (some (.inl (if fitB l h f then 1 else 0))) (I, J, R)) : tkDn tm_38 (0, [some (.inl l), some (.inl h), some (.inl f)], [], (I, J, R)) Q := by
  refine dn_run 2 (show tkDn tm_38 (2, [some (.inl l), some (.inl h), some (.inl f)], [.inl f, .inl l], (I, J, R)) _ from ?_)
  refine dn_if rfl rfl rfl (fun (c1 : l < f) => ?_) (fun (c1 : ¬ l < f) => ?_)
  · show tkDn tm_38 (20, [some (.inl l), some (.inl h), some (.inl f)], [], (I, J, R)) _
    refine dn_run 1 (show tkDn tm_38 (21, [some (.inl l), some (.inl h), some (.inl f)], [.inl 0], (I, J, R)) _ from ?_)
    refine dn_retb rfl rfl rfl rfl (by decide) ?_
    rw [if_neg (fun q => absurd q.1 (Int32.not_le.mpr c1))] at hQ
    exact hQ
  · show tkDn tm_38 (5, [some (.inl l), some (.inl h), some (.inl f)], [], (I, J, R)) _
    refine dn_run 2 (show tkDn tm_38 (7, [some (.inl l), some (.inl h), some (.inl f)], [.inl h, .inl l], (I, J, R)) _ from ?_)
    refine dn_if rfl rfl rfl (fun (c2 : h < l) => ?_) (fun (c2 : ¬ h < l) => ?_)
    · show tkDn tm_38 (20, [some (.inl l), some (.inl h), some (.inl f)], [], (I, J, R)) _
      refine dn_run 1 (show tkDn tm_38 (21, [some (.inl l), some (.inl h), some (.inl f)], [.inl 0], (I, J, R)) _ from ?_)
      refine dn_retb rfl rfl rfl rfl (by decide) ?_
      rw [if_neg (fun q => absurd q.2.1 (Int32.not_le.mpr c2))] at hQ
      exact hQ
    · show tkDn tm_38 (10, [some (.inl l), some (.inl h), some (.inl f)], [], (I, J, R)) _
      refine dn_run 2 (show tkDn tm_38 (13, [some (.inl l), some (.inl h), some (.inl f)], [.inl 100000, .inl h], (I, J, R)) _ from ?_)
      refine dn_if rfl rfl rfl (fun (c3 : 100000 < h) => ?_) (fun (c3 : ¬ 100000 < h) => ?_)
      · show tkDn tm_38 (20, [some (.inl l), some (.inl h), some (.inl f)], [], (I, J, R)) _
        refine dn_run 1 (show tkDn tm_38 (21, [some (.inl l), some (.inl h), some (.inl f)], [.inl 0], (I, J, R)) _ from ?_)
        refine dn_retb rfl rfl rfl rfl (by decide) ?_
        rw [if_neg (fun q => absurd q.2.2 (Int32.not_le.mpr c3))] at hQ
        exact hQ
      · show tkDn tm_38 (16, [some (.inl l), some (.inl h), some (.inl f)], [], (I, J, R)) _
        refine dn_run 2 (show tkDn tm_38 (21, [some (.inl l), some (.inl h), some (.inl f)], [.inl 1], (I, J, R)) _ from ?_)
        refine dn_retb rfl rfl rfl rfl (by decide) ?_
        rw [if_pos ⟨Int32.not_lt.mp c1, Int32.not_lt.mp c2, Int32.not_lt.mp c3⟩] at hQ
        exact hQ
theorem sn_refuseLink {I : tkI} {J : tkJ} {R : Nat → Nat} {b : Nat} {Q : tkQ} {S : tkS} (hP : NetP (I 1 b) S) {u v l h f : Int32} (hQ : Q (some (.inl (rfF S u v l h f))) (I, J, R)) : tkDn tm_37 (0, [some (.inr (.inr (1, b, 0))), some (.inl u), some (.inl v), some (.inl l), some (.inl h), some (.inl f)], [], (I, J, R)) Q := by
  have hM := hP.m
  refine dn_run 2 (show tkDn tm_37 (2, [some (.inr (.inr (1, b, 0))), some (.inl u), some (.inl v), some (.inl l), some (.inl h), some (.inl f)], [.inl u, .inr (.inr (1, b, 0))], (I, J, R)) _ from ?_)
  refine dn_call rfl rfl rfl rfl rfl (sn_hasMoment ?_)
  show tkDn tm_37 (5, [some (.inr (.inr (1, b, 0))), some (.inl u), some (.inl v), some (.inl l), some (.inl h), some (.inl f)], [.inl (if 0 ≤ u ∧ u < I 1 b 0 0 then 1 else 0)], (I, J, R)) _
  refine dn_if rfl rfl rfl (fun (c1 : (if 0 ≤ u ∧ u < I 1 b 0 0 then 1 else 0) = 0) => ?_) (fun (c1 : ¬ (if 0 ≤ u ∧ u < I 1 b 0 0 then 1 else 0) = 0) => ?_)
  · show tkDn tm_37 (16, [some (.inr (.inr (1, b, 0))), some (.inl u), some (.inl v), some (.inl l), some (.inl h), some (.inl f)], [], (I, J, R)) _
    refine dn_run 1 (show tkDn tm_37 (18, [some (.inr (.inr (1, b, 0))), some (.inl u), some (.inl v), some (.inl l), some (.inl h), some (.inl f)], [.inl (-11)], (I, J, R)) _ from ?_)
    refine dn_ret0 rfl rfl rfl rfl ?_
    rw [show rfF S u v l h f = -11 by unfold rfF; rw [if_pos (fun q => by rw [hM, if_pos q.1] at c1; exact absurd c1 (by decide))]] at hQ
    exact hQ
  · show tkDn tm_37 (8, [some (.inr (.inr (1, b, 0))), some (.inl u), some (.inl v), some (.inl l), some (.inl h), some (.inl f)], [], (I, J, R)) _
    have k1 : hasM S u := by rw [hM] at c1; by_cases q : hasM S u; exact q; exact absurd (if_neg q) c1
    refine dn_run 2 (show tkDn tm_37 (10, [some (.inr (.inr (1, b, 0))), some (.inl u), some (.inl v), some (.inl l), some (.inl h), some (.inl f)], [.inl v, .inr (.inr (1, b, 0))], (I, J, R)) _ from ?_)
    refine dn_call rfl rfl rfl rfl rfl (sn_hasMoment ?_)
    show tkDn tm_37 (13, [some (.inr (.inr (1, b, 0))), some (.inl u), some (.inl v), some (.inl l), some (.inl h), some (.inl f)], [.inl (if 0 ≤ v ∧ v < I 1 b 0 0 then 1 else 0)], (I, J, R)) _
    refine dn_if rfl rfl rfl (fun (c2 : ¬ (if 0 ≤ v ∧ v < I 1 b 0 0 then 1 else 0) = 0) => ?_) (fun (c2 : (if 0 ≤ v ∧ v < I 1 b 0 0 then 1 else 0) = 0) => ?_)
    · show tkDn tm_37 (19, [some (.inr (.inr (1, b, 0))), some (.inl u), some (.inl v), some (.inl l), some (.inl h), some (.inl f)], [], (I, J, R)) _
      have k2 : hasM S v := by rw [hM] at c2; by_cases q : hasM S v; exact q; exact absurd (if_neg q) c2
      refine dn_run 2 (show tkDn tm_37 (21, [some (.inr (.inr (1, b, 0))), some (.inl u), some (.inl v), some (.inl l), some (.inl h), some (.inl f)], [.inl v, .inl u], (I, J, R)) _ from ?_)
      refine dn_if rfl rfl rfl (fun (c3 : ¬ u = v) => ?_) (fun (c3 : u = v) => ?_)
      · show tkDn tm_37 (27, [some (.inr (.inr (1, b, 0))), some (.inl u), some (.inl v), some (.inl l), some (.inl h), some (.inl f)], [], (I, J, R)) _
        refine dn_run 3 (show tkDn tm_37 (32, [some (.inr (.inr (1, b, 0))), some (.inl u), some (.inl v), some (.inl l), some (.inl h), some (.inl f)], [.inl f, .inl h, .inl l], (I, J, R)) _ from ?_)
        refine dn_call rfl rfl rfl rfl rfl (sn_fits ?_)
        show tkDn tm_37 (35, [some (.inr (.inr (1, b, 0))), some (.inl u), some (.inl v), some (.inl l), some (.inl h), some (.inl f)], [.inl (if fitB l h f then 1 else 0)], (I, J, R)) _
        refine dn_if rfl rfl rfl (fun (c4 : (if fitB l h f then 1 else 0) = 0) => ?_) (fun (c4 : ¬ (if fitB l h f then 1 else 0) = 0) => ?_)
        · show tkDn tm_37 (42, [some (.inr (.inr (1, b, 0))), some (.inl u), some (.inl v), some (.inl l), some (.inl h), some (.inl f)], [], (I, J, R)) _
          refine dn_run 1 (show tkDn tm_37 (44, [some (.inr (.inr (1, b, 0))), some (.inl u), some (.inl v), some (.inl l), some (.inl h), some (.inl f)], [.inl (-12)], (I, J, R)) _ from ?_)
          refine dn_ret0 rfl rfl rfl rfl ?_
          rw [show rfF S u v l h f = -12 by unfold rfF; rw [if_neg (fun q => q ⟨k1, k2⟩), if_neg c3, if_neg (fun q => by rw [if_pos q] at c4; exact absurd c4 (by decide))]] at hQ
          exact hQ
        · show tkDn tm_37 (38, [some (.inr (.inr (1, b, 0))), some (.inl u), some (.inl v), some (.inl l), some (.inl h), some (.inl f)], [], (I, J, R)) _
          refine dn_run 2 (show tkDn tm_37 (44, [some (.inr (.inr (1, b, 0))), some (.inl u), some (.inl v), some (.inl l), some (.inl h), some (.inl f)], [.inl 0], (I, J, R)) _ from ?_)
          refine dn_ret0 rfl rfl rfl rfl ?_
          rw [show rfF S u v l h f = 0 by unfold rfF; rw [if_neg (fun q => q ⟨k1, k2⟩), if_neg c3, if_pos (by by_cases q : fitB l h f; exact q; exact absurd (if_neg q) c4)]] at hQ
          exact hQ
      · show tkDn tm_37 (24, [some (.inr (.inr (1, b, 0))), some (.inl u), some (.inl v), some (.inl l), some (.inl h), some (.inl f)], [], (I, J, R)) _
        refine dn_run 1 (show tkDn tm_37 (26, [some (.inr (.inr (1, b, 0))), some (.inl u), some (.inl v), some (.inl l), some (.inl h), some (.inl f)], [.inl (-13)], (I, J, R)) _ from ?_)
        refine dn_ret0 rfl rfl rfl rfl ?_
        rw [show rfF S u v l h f = -13 by unfold rfF; rw [if_neg (fun q => q ⟨k1, k2⟩), if_pos c3]] at hQ
        exact hQ
    · show tkDn tm_37 (16, [some (.inr (.inr (1, b, 0))), some (.inl u), some (.inl v), some (.inl l), some (.inl h), some (.inl f)], [], (I, J, R)) _
      refine dn_run 1 (show tkDn tm_37 (18, [some (.inr (.inr (1, b, 0))), some (.inl u), some (.inl v), some (.inl l), some (.inl h), some (.inl f)], [.inl (-11)], (I, J, R)) _ from ?_)
      refine dn_ret0 rfl rfl rfl rfl ?_
      rw [show rfF S u v l h f = -11 by unfold rfF; rw [if_pos (fun q => by rw [hM, if_pos q.2] at c2; exact absurd c2 (by decide))]] at hQ
      exact hQ
theorem sn_append0 {I : tkI} {J : tkJ} {R : Nat → Nat} {Q : tkQ} {S : tkS} (hP : NetP (I 1 0) S) {u v : Nat} {l h g : Int32} (hlt : sL S < 60) (hQ : ∀ X, NetP X (app S u v l h g) → Q (some (.inl (nI (sL S)))) (tk_so I 1 0 X, J, R)) : tkDn tm_36 (0, [some (.inr (.inr (1, 0, 0))), some (.inl (nI u)), some (.inl (nI v)), some (.inl l), some (.inl h), some (.inl g)], [], (I, J, R)) Q := by
  have hL := hP.l
  have hin : vp_in (I 1 0 0 1) 60 := by rw [hL]; exact vp_in_nI hlt (by omega)
  refine dn_run 40 (show (vp_in (I 1 0 0 1) 60) ∧ (vp_in (I 1 0 0 1) 60) ∧ (vp_in (I 1 0 0 1) 60) ∧ (vp_in (I 1 0 0 1) 60) ∧ (vp_in (I 1 0 0 1) 60) ∧ tkDn tm_36 (68, [some (.inr (.inr (1, 0, 0))), some (.inl (nI u)), some (.inl (nI v)), some (.inl l), some (.inl h), some (.inl g)], [.inl (((I 1 0 0 1) + 1) - 1)], (tk_so (tk_so (tk_so (tk_so (tk_so (tk_so I 1 0 (tk_u2 (I 1 0) 4 ((I 1 0 0 1).toNatClampNeg) (nI u))) 1 0 (tk_u2 (tk_u2 (I 1 0) 4 ((I 1 0 0 1).toNatClampNeg) (nI u)) 5 ((I 1 0 0 1).toNatClampNeg) (nI v))) 1 0 (tk_u2 (tk_u2 (tk_u2 (I 1 0) 4 ((I 1 0 0 1).toNatClampNeg) (nI u)) 5 ((I 1 0 0 1).toNatClampNeg) (nI v)) 6 ((I 1 0 0 1).toNatClampNeg) l)) 1 0 (tk_u2 (tk_u2 (tk_u2 (tk_u2 (I 1 0) 4 ((I 1 0 0 1).toNatClampNeg) (nI u)) 5 ((I 1 0 0 1).toNatClampNeg) (nI v)) 6 ((I 1 0 0 1).toNatClampNeg) l) 7 ((I 1 0 0 1).toNatClampNeg) h)) 1 0 (tk_u2 (tk_u2 (tk_u2 (tk_u2 (tk_u2 (I 1 0) 4 ((I 1 0 0 1).toNatClampNeg) (nI u)) 5 ((I 1 0 0 1).toNatClampNeg) (nI v)) 6 ((I 1 0 0 1).toNatClampNeg) l) 7 ((I 1 0 0 1).toNatClampNeg) h) 8 ((I 1 0 0 1).toNatClampNeg) g)) 1 0 (tk_u2 (tk_u2 (tk_u2 (tk_u2 (tk_u2 (tk_u2 (I 1 0) 4 ((I 1 0 0 1).toNatClampNeg) (nI u)) 5 ((I 1 0 0 1).toNatClampNeg) (nI v)) 6 ((I 1 0 0 1).toNatClampNeg) l) 7 ((I 1 0 0 1).toNatClampNeg) h) 8 ((I 1 0 0 1).toNatClampNeg) g) 0 1 ((I 1 0 0 1) + 1)), J, R)) _ from ⟨hin, hin, hin, hin, hin, ?_⟩)
  rw [tk_so_so, tk_so_so, tk_so_so, tk_so_so, tk_so_so]
  refine dn_ret0 rfl rfl rfl rfl ?_
  rw [show I 1 0 0 1 + 1 - 1 = nI (sL S) by rw [hL]; rw [nI_1, nI_sub1]]
  refine hQ _ (NetP_app hP (by rw [hL, nI_clamp (by omega)]) (by rw [hL]; rw [nI_1]))
theorem sn_append1 {I : tkI} {J : tkJ} {R : Nat → Nat} {Q : tkQ} {S : tkS} (hP : NetP (I 1 1) S) {u v : Nat} {l h g : Int32} (hlt : sL S < 60) (hQ : ∀ X, NetP X (app S u v l h g) → Q (some (.inl (nI (sL S)))) (tk_so I 1 1 X, J, R)) : tkDn tm_36 (0, [some (.inr (.inr (1, 1, 0))), some (.inl (nI u)), some (.inl (nI v)), some (.inl l), some (.inl h), some (.inl g)], [], (I, J, R)) Q := by
  have hL := hP.l
  have hin : vp_in (I 1 1 0 1) 60 := by rw [hL]; exact vp_in_nI hlt (by omega)
  refine dn_run 40 (show (vp_in (I 1 1 0 1) 60) ∧ (vp_in (I 1 1 0 1) 60) ∧ (vp_in (I 1 1 0 1) 60) ∧ (vp_in (I 1 1 0 1) 60) ∧ (vp_in (I 1 1 0 1) 60) ∧ tkDn tm_36 (68, [some (.inr (.inr (1, 1, 0))), some (.inl (nI u)), some (.inl (nI v)), some (.inl l), some (.inl h), some (.inl g)], [.inl (((I 1 1 0 1) + 1) - 1)], (tk_so (tk_so (tk_so (tk_so (tk_so (tk_so I 1 1 (tk_u2 (I 1 1) 4 ((I 1 1 0 1).toNatClampNeg) (nI u))) 1 1 (tk_u2 (tk_u2 (I 1 1) 4 ((I 1 1 0 1).toNatClampNeg) (nI u)) 5 ((I 1 1 0 1).toNatClampNeg) (nI v))) 1 1 (tk_u2 (tk_u2 (tk_u2 (I 1 1) 4 ((I 1 1 0 1).toNatClampNeg) (nI u)) 5 ((I 1 1 0 1).toNatClampNeg) (nI v)) 6 ((I 1 1 0 1).toNatClampNeg) l)) 1 1 (tk_u2 (tk_u2 (tk_u2 (tk_u2 (I 1 1) 4 ((I 1 1 0 1).toNatClampNeg) (nI u)) 5 ((I 1 1 0 1).toNatClampNeg) (nI v)) 6 ((I 1 1 0 1).toNatClampNeg) l) 7 ((I 1 1 0 1).toNatClampNeg) h)) 1 1 (tk_u2 (tk_u2 (tk_u2 (tk_u2 (tk_u2 (I 1 1) 4 ((I 1 1 0 1).toNatClampNeg) (nI u)) 5 ((I 1 1 0 1).toNatClampNeg) (nI v)) 6 ((I 1 1 0 1).toNatClampNeg) l) 7 ((I 1 1 0 1).toNatClampNeg) h) 8 ((I 1 1 0 1).toNatClampNeg) g)) 1 1 (tk_u2 (tk_u2 (tk_u2 (tk_u2 (tk_u2 (tk_u2 (I 1 1) 4 ((I 1 1 0 1).toNatClampNeg) (nI u)) 5 ((I 1 1 0 1).toNatClampNeg) (nI v)) 6 ((I 1 1 0 1).toNatClampNeg) l) 7 ((I 1 1 0 1).toNatClampNeg) h) 8 ((I 1 1 0 1).toNatClampNeg) g) 0 1 ((I 1 1 0 1) + 1)), J, R)) _ from ⟨hin, hin, hin, hin, hin, ?_⟩)
  rw [tk_so_so, tk_so_so, tk_so_so, tk_so_so, tk_so_so]
  refine dn_ret0 rfl rfl rfl rfl ?_
  rw [show I 1 1 0 1 + 1 - 1 = nI (sL S) by rw [hL]; rw [nI_1, nI_sub1]]
  refine hQ _ (NetP_app hP (by rw [hL, nI_clamp (by omega)]) (by rw [hL]; rw [nI_1]))
theorem sn_append {I : tkI} {J : tkJ} {R : Nat → Nat} {b : Nat} (hb : b < 2) {Q : tkQ} {S : tkS} (hP : NetP (I 1 b) S) {u v : Nat} {l h g : Int32} (hlt : sL S < 60) (hQ : ∀ X, NetP X (app S u v l h g) → Q (some (.inl (nI (sL S)))) (tk_so I 1 b X, J, R)) : tkDn tm_36 (0, [some (.inr (.inr (1, b, 0))), some (.inl (nI u)), some (.inl (nI v)), some (.inl l), some (.inl h), some (.inl g)], [], (I, J, R)) Q := by
  match b, hb with
  | 0, _ => exact sn_append0 hP hlt hQ
  | 1, _ => exact sn_append1 hP hlt hQ
theorem sn_addMoments0 {I : tkI} {J : tkJ} {R : Nat → Nat} {Q : tkQ} {S : tkS} (hP : NetP (I 1 0) S) (w : WF S) {n : Int32} (hQ : ∀ X, NetP X (opMom S n).2 → Q (some (.inl (opMom S n).1)) (tk_so I 1 0 X, J, R)) : tkDn tm_30 (0, [some (.inr (.inr (1, 0, 0))), some (.inl n)], [], (I, J, R)) Q := by
  have hM := hP.m
  have hM16 := w.1
  refine dn_run 2 (show tkDn tm_30 (2, [some (.inr (.inr (1, 0, 0))), some (.inl n)], [.inl 1, .inl n], (I, J, R)) _ from ?_)
  refine dn_if rfl rfl rfl (fun (c1 : n < 1) => ?_) (fun (c1 : ¬ n < 1) => ?_)
  · show tkDn tm_30 (11, [some (.inr (.inr (1, 0, 0))), some (.inl n)], [], (I, J, R)) _
    refine dn_run 1 (show tkDn tm_30 (13, [some (.inr (.inr (1, 0, 0))), some (.inl n)], [.inl (-12)], (I, J, R)) _ from ?_)
    refine dn_ret0 rfl rfl rfl rfl ?_
    rw [show opMom S n = (-12, S) by unfold opMom; rw [if_pos (Or.inl c1)]] at hQ
    have := hQ (I 1 0) hP
    rw [tk_so_id] at this
    exact this
  · show tkDn tm_30 (5, [some (.inr (.inr (1, 0, 0))), some (.inl n)], [], (I, J, R)) _
    refine dn_run 2 (show tkDn tm_30 (8, [some (.inr (.inr (1, 0, 0))), some (.inl n)], [.inl 16, .inl n], (I, J, R)) _ from ?_)
    refine dn_if rfl rfl rfl (fun (c2 : n ≤ 16) => ?_) (fun (c2 : ¬ n ≤ 16) => ?_)
    · show tkDn tm_30 (14, [some (.inr (.inr (1, 0, 0))), some (.inl n)], [], (I, J, R)) _
      have c2 := Int32.not_lt.mpr c2
      refine dn_run 5 (show tkDn tm_30 (22, [some (.inr (.inr (1, 0, 0))), some (.inl n)], [.inl 16, .inl ((I 1 0 0 0) + n)], (I, J, R)) _ from ?_)
      refine dn_if rfl rfl rfl (fun (c3 : ((I 1 0 0 0) + n) ≤ 16) => ?_) (fun (c3 : ¬ ((I 1 0 0 0) + n) ≤ 16) => ?_)
      · show tkDn tm_30 (28, [some (.inr (.inr (1, 0, 0))), some (.inl n)], [], (I, J, R)) _
        have c3 := Int32.not_lt.mpr c3
        refine dn_run 8 (show tkDn tm_30 (42, [some (.inr (.inr (1, 0, 0))), some (.inl n)], [.inl ((I 1 0 0 0) + n)], (tk_so I 1 0 (tk_u2 (I 1 0) 0 0 ((I 1 0 0 0) + n)), J, R)) _ from ?_)
        refine dn_ret0 rfl rfl rfl rfl ?_
        rw [hM] at c3
        obtain ⟨j, hj, rfl⟩ := nI_of (x := n) (fun q => c1 (Int32.lt_trans q (by decide)))
        have hj16 : j ≤ 16 := by
          have := (nI_leI (a := j) (b := 16) hj (by decide)).mp (Int32.not_lt.mp c2)
          omega
        have he : opMom S (nI j) = (nI (sM S + j), (sM S + j, S.2)) := by
          unfold opMom
          rw [if_neg (fun q => q.elim c1 c2), if_neg c3, nI_clamp hj]
        rw [he] at hQ
        rw [show I 1 0 0 0 + nI j = nI (sM S + j) by rw [hM, nI_add]]
        refine hQ _ ⟨by rw [tk_u2_1]; rfl, by rw [tk_u2_0 (by decide)]; exact hP.l, by rw [tk_u2_0 (by decide)]; exact hP.g, fun q hq => ?_, fun q hq => ?_⟩
        · have := hP.2.2.2.1 q hq
          simp only [tk_u2_0 (show ¬ (4 = 0 ∧ q = 0) by omega), tk_u2_0 (show ¬ (5 = 0 ∧ q = 0) by omega), tk_u2_0 (show ¬ (6 = 0 ∧ q = 0) by omega), tk_u2_0 (show ¬ (7 = 0 ∧ q = 0) by omega), tk_u2_0 (show ¬ (8 = 0 ∧ q = 0) by omega)]
          exact this
        · rw [tk_u2_0 (show ¬ (9 = 0 ∧ q = 0) by omega)]
          exact hP.2.2.2.2 q hq
      · show tkDn tm_30 (25, [some (.inr (.inr (1, 0, 0))), some (.inl n)], [], (I, J, R)) _
        have c3 := Int32.not_le.mp c3
        refine dn_run 1 (show tkDn tm_30 (27, [some (.inr (.inr (1, 0, 0))), some (.inl n)], [.inl (-14)], (I, J, R)) _ from ?_)
        refine dn_ret0 rfl rfl rfl rfl ?_
        rw [hM] at c3
        rw [show opMom S n = (-14, S) by unfold opMom; rw [if_neg (fun q => q.elim c1 c2), if_pos c3]] at hQ
        have := hQ (I 1 0) hP
        rw [tk_so_id] at this
        exact this
    · show tkDn tm_30 (11, [some (.inr (.inr (1, 0, 0))), some (.inl n)], [], (I, J, R)) _
      refine dn_run 1 (show tkDn tm_30 (13, [some (.inr (.inr (1, 0, 0))), some (.inl n)], [.inl (-12)], (I, J, R)) _ from ?_)
      refine dn_ret0 rfl rfl rfl rfl ?_
      rw [show opMom S n = (-12, S) by unfold opMom; rw [if_pos (Or.inr (Int32.not_le.mp c2))]] at hQ
      have := hQ (I 1 0) hP
      rw [tk_so_id] at this
      exact this
theorem sn_addMoments1 {I : tkI} {J : tkJ} {R : Nat → Nat} {Q : tkQ} {S : tkS} (hP : NetP (I 1 1) S) (w : WF S) {n : Int32} (hQ : ∀ X, NetP X (opMom S n).2 → Q (some (.inl (opMom S n).1)) (tk_so I 1 1 X, J, R)) : tkDn tm_30 (0, [some (.inr (.inr (1, 1, 0))), some (.inl n)], [], (I, J, R)) Q := by
  have hM := hP.m
  have hM16 := w.1
  refine dn_run 2 (show tkDn tm_30 (2, [some (.inr (.inr (1, 1, 0))), some (.inl n)], [.inl 1, .inl n], (I, J, R)) _ from ?_)
  refine dn_if rfl rfl rfl (fun (c1 : n < 1) => ?_) (fun (c1 : ¬ n < 1) => ?_)
  · show tkDn tm_30 (11, [some (.inr (.inr (1, 1, 0))), some (.inl n)], [], (I, J, R)) _
    refine dn_run 1 (show tkDn tm_30 (13, [some (.inr (.inr (1, 1, 0))), some (.inl n)], [.inl (-12)], (I, J, R)) _ from ?_)
    refine dn_ret0 rfl rfl rfl rfl ?_
    rw [show opMom S n = (-12, S) by unfold opMom; rw [if_pos (Or.inl c1)]] at hQ
    have := hQ (I 1 1) hP
    rw [tk_so_id] at this
    exact this
  · show tkDn tm_30 (5, [some (.inr (.inr (1, 1, 0))), some (.inl n)], [], (I, J, R)) _
    refine dn_run 2 (show tkDn tm_30 (8, [some (.inr (.inr (1, 1, 0))), some (.inl n)], [.inl 16, .inl n], (I, J, R)) _ from ?_)
    refine dn_if rfl rfl rfl (fun (c2 : n ≤ 16) => ?_) (fun (c2 : ¬ n ≤ 16) => ?_)
    · show tkDn tm_30 (14, [some (.inr (.inr (1, 1, 0))), some (.inl n)], [], (I, J, R)) _
      have c2 := Int32.not_lt.mpr c2
      refine dn_run 5 (show tkDn tm_30 (22, [some (.inr (.inr (1, 1, 0))), some (.inl n)], [.inl 16, .inl ((I 1 1 0 0) + n)], (I, J, R)) _ from ?_)
      refine dn_if rfl rfl rfl (fun (c3 : ((I 1 1 0 0) + n) ≤ 16) => ?_) (fun (c3 : ¬ ((I 1 1 0 0) + n) ≤ 16) => ?_)
      · show tkDn tm_30 (28, [some (.inr (.inr (1, 1, 0))), some (.inl n)], [], (I, J, R)) _
        have c3 := Int32.not_lt.mpr c3
        refine dn_run 8 (show tkDn tm_30 (42, [some (.inr (.inr (1, 1, 0))), some (.inl n)], [.inl ((I 1 1 0 0) + n)], (tk_so I 1 1 (tk_u2 (I 1 1) 0 0 ((I 1 1 0 0) + n)), J, R)) _ from ?_)
        refine dn_ret0 rfl rfl rfl rfl ?_
        rw [hM] at c3
        obtain ⟨j, hj, rfl⟩ := nI_of (x := n) (fun q => c1 (Int32.lt_trans q (by decide)))
        have hj16 : j ≤ 16 := by
          have := (nI_leI (a := j) (b := 16) hj (by decide)).mp (Int32.not_lt.mp c2)
          omega
        have he : opMom S (nI j) = (nI (sM S + j), (sM S + j, S.2)) := by
          unfold opMom
          rw [if_neg (fun q => q.elim c1 c2), if_neg c3, nI_clamp hj]
        rw [he] at hQ
        rw [show I 1 1 0 0 + nI j = nI (sM S + j) by rw [hM, nI_add]]
        refine hQ _ ⟨by rw [tk_u2_1]; rfl, by rw [tk_u2_0 (by decide)]; exact hP.l, by rw [tk_u2_0 (by decide)]; exact hP.g, fun q hq => ?_, fun q hq => ?_⟩
        · have := hP.2.2.2.1 q hq
          simp only [tk_u2_0 (show ¬ (4 = 0 ∧ q = 0) by omega), tk_u2_0 (show ¬ (5 = 0 ∧ q = 0) by omega), tk_u2_0 (show ¬ (6 = 0 ∧ q = 0) by omega), tk_u2_0 (show ¬ (7 = 0 ∧ q = 0) by omega), tk_u2_0 (show ¬ (8 = 0 ∧ q = 0) by omega)]
          exact this
        · rw [tk_u2_0 (show ¬ (9 = 0 ∧ q = 0) by omega)]
          exact hP.2.2.2.2 q hq
      · show tkDn tm_30 (25, [some (.inr (.inr (1, 1, 0))), some (.inl n)], [], (I, J, R)) _
        have c3 := Int32.not_le.mp c3
        refine dn_run 1 (show tkDn tm_30 (27, [some (.inr (.inr (1, 1, 0))), some (.inl n)], [.inl (-14)], (I, J, R)) _ from ?_)
        refine dn_ret0 rfl rfl rfl rfl ?_
        rw [hM] at c3
        rw [show opMom S n = (-14, S) by unfold opMom; rw [if_neg (fun q => q.elim c1 c2), if_pos c3]] at hQ
        have := hQ (I 1 1) hP
        rw [tk_so_id] at this
        exact this
    · show tkDn tm_30 (11, [some (.inr (.inr (1, 1, 0))), some (.inl n)], [], (I, J, R)) _
      refine dn_run 1 (show tkDn tm_30 (13, [some (.inr (.inr (1, 1, 0))), some (.inl n)], [.inl (-12)], (I, J, R)) _ from ?_)
      refine dn_ret0 rfl rfl rfl rfl ?_
      rw [show opMom S n = (-12, S) by unfold opMom; rw [if_pos (Or.inr (Int32.not_le.mp c2))]] at hQ
      have := hQ (I 1 1) hP
      rw [tk_so_id] at this
      exact this
theorem sn_addMoments {I : tkI} {J : tkJ} {R : Nat → Nat} {b : Nat} (hb : b < 2) {Q : tkQ} {S : tkS} (hP : NetP (I 1 b) S) (w : WF S) {n : Int32} (hQ : ∀ X, NetP X (opMom S n).2 → Q (some (.inl (opMom S n).1)) (tk_so I 1 b X, J, R)) : tkDn tm_30 (0, [some (.inr (.inr (1, b, 0))), some (.inl n)], [], (I, J, R)) Q := by
  match b, hb with
  | 0, _ => exact sn_addMoments0 hP w hQ
  | 1, _ => exact sn_addMoments1 hP w hQ
