/-! Net: gifts, undo, bounds, parts -/
theorem sn_addGift0 {I : tkI} {J : tkJ} {R : Nat → Nat} {Q : tkQ} {S : tkS} (hP : NetP (I 1 0) S) (w : WF S) {u v l h : Int32} (hQ : ∀ X, NetP X (opGift S u v l h).2 → Q (some (.inl (opGift S u v l h).1)) (tk_so I 1 0 X, J, R)) : tkDn tm_32 (0, [some (.inr (.inr (1, 0, 0))), some (.inl u), some (.inl v), some (.inl l), some (.inl h), none], [], (I, J, R)) Q := by
  have hM16 := w.1
  have hL60 := w.2.1
  have hG6 := w.2.2.1
  have hL := hP.l
  have hG := hP.g
  refine dn_run 6 (show tkDn tm_32 (7, [some (.inr (.inr (1, 0, 0))), some (.inl u), some (.inl v), some (.inl l), some (.inl h), none], [.inl 1, .inl h, .inl l, .inl v, .inl u, .inr (.inr (1, 0, 0))], (I, J, R)) _ from ?_)
  refine dn_call rfl rfl rfl rfl rfl (sn_refuseLink hP ?_)
  show tkDn tm_32 (10, [some (.inr (.inr (1, 0, 0))), some (.inl u), some (.inl v), some (.inl l), some (.inl h), none], [.inl (rfF S u v l h 1)], (I, J, R)) _
  refine dn_run 2 (show tkDn tm_32 (14, [some (.inr (.inr (1, 0, 0))), some (.inl u), some (.inl v), some (.inl l), some (.inl h), some (.inl (rfF S u v l h 1))], [.inl (rfF S u v l h 1)], (I, J, R)) _ from ?_)
  refine dn_if rfl rfl rfl (fun (c1 : (rfF S u v l h 1) = 0) => ?_) (fun (c1 : ¬ (rfF S u v l h 1) = 0) => ?_)
  · show tkDn tm_32 (20, [some (.inr (.inr (1, 0, 0))), some (.inl u), some (.inl v), some (.inl l), some (.inl h), some (.inl (rfF S u v l h 1))], [], (I, J, R)) _
    obtain ⟨h1, h2, h3, h4⟩ := rfF_0 c1
    obtain ⟨u, hu, rfl, hu2⟩ := hasM_nat hM16 h1
    obtain ⟨v, hv, rfl, hv2⟩ := hasM_nat hM16 h2
    show tkDn tm_32 (20, [some (.inr (.inr (1, 0, 0))), some (.inl (nI u)), some (.inl (nI v)), some (.inl l), some (.inl h), some (.inl (rfF S (nI u) (nI v) l h 1))], [], (I, J, R)) _
    refine dn_run 2 (show tkDn tm_32 (22, [some (.inr (.inr (1, 0, 0))), some (.inl (nI u)), some (.inl (nI v)), some (.inl l), some (.inl h), some (.inl (rfF S (nI u) (nI v) l h 1))], [.inl (nI v), .inr (.inr (1, 0, 0))], (I, J, R)) _ from ?_)
    refine dn_call rfl rfl rfl rfl rfl (sn_isGiven hP w (by omega) ?_)
    show tkDn tm_32 (25, [some (.inr (.inr (1, 0, 0))), some (.inl (nI u)), some (.inl (nI v)), some (.inl l), some (.inl h), some (.inl (rfF S (nI u) (nI v) l h 1))], [.inl (if gt S v < sG S then 1 else 0)], (I, J, R)) _
    refine dn_if rfl rfl rfl (fun (c2 : ¬ (if gt S v < sG S then 1 else 0) = 0) => ?_) (fun (c2 : (if gt S v < sG S then 1 else 0) = 0) => ?_)
    · show tkDn tm_32 (37, [some (.inr (.inr (1, 0, 0))), some (.inl (nI u)), some (.inl (nI v)), some (.inl l), some (.inl h), some (.inl (rfF S (nI u) (nI v) l h 1))], [], (I, J, R)) _
      refine dn_run 1 (show tkDn tm_32 (39, [some (.inr (.inr (1, 0, 0))), some (.inl (nI u)), some (.inl (nI v)), some (.inl l), some (.inl h), some (.inl (rfF S (nI u) (nI v) l h 1))], [.inl (-13)], (I, J, R)) _ from ?_)
      refine dn_ret0 rfl rfl rfl rfl ?_
      rw [show opGift S (nI u) (nI v) l h = (-13, S) by unfold opGift; rw [if_pos c1, hu2, hv2, if_pos (Or.inl (by by_cases q : gt S v < sG S; exact q; exact absurd (if_neg q) c2))]] at hQ
      have := hQ (I 1 0) hP
      rw [tk_so_id] at this
      exact this
    · show tkDn tm_32 (28, [some (.inr (.inr (1, 0, 0))), some (.inl (nI u)), some (.inl (nI v)), some (.inl l), some (.inl h), some (.inl (rfF S (nI u) (nI v) l h 1))], [], (I, J, R)) _
      have hg : ¬ gt S v < sG S := fun q => by rw [if_pos q] at c2; exact absurd c2 (by decide)
      refine dn_run 3 (show tkDn tm_32 (31, [some (.inr (.inr (1, 0, 0))), some (.inl (nI u)), some (.inl (nI v)), some (.inl l), some (.inl h), some (.inl (rfF S (nI u) (nI v) l h 1))], [.inl (nI v), .inl (nI u), .inr (.inr (1, 0, 0))], (I, J, R)) _ from ?_)
      refine dn_call rfl rfl rfl rfl rfl (sn_comesFrom hP w hu (by omega) ?_)
      show tkDn tm_32 (34, [some (.inr (.inr (1, 0, 0))), some (.inl (nI u)), some (.inl (nI v)), some (.inl l), some (.inl h), some (.inl (rfF S (nI u) (nI v) l h 1))], [.inl (if cfF S v 7 u = true then 1 else 0)], (I, J, R)) _
      refine dn_if rfl rfl rfl (fun (c3 : (if cfF S v 7 u = true then 1 else 0) = 0) => ?_) (fun (c3 : ¬ (if cfF S v 7 u = true then 1 else 0) = 0) => ?_)
      · show tkDn tm_32 (40, [some (.inr (.inr (1, 0, 0))), some (.inl (nI u)), some (.inl (nI v)), some (.inl l), some (.inl h), some (.inl (rfF S (nI u) (nI v) l h 1))], [], (I, J, R)) _
        have hc : ¬ cfF S v 7 u = true := fun q => by rw [if_pos q] at c3; exact absurd c3 (by decide)
        have hn : ¬ (gt S v < sG S ∨ cfF S v 7 u = true) := fun q => q.elim hg hc
        refine dn_run 3 (show tkDn tm_32 (46, [some (.inr (.inr (1, 0, 0))), some (.inl (nI u)), some (.inl (nI v)), some (.inl l), some (.inl h), some (.inl (rfF S (nI u) (nI v) l h 1))], [.inl 60, .inl (I 1 0 0 1)], (I, J, R)) _ from ?_)
        refine dn_if rfl rfl rfl (fun (c4 : 60 ≤ (I 1 0 0 1)) => ?_) (fun (c4 : ¬ 60 ≤ (I 1 0 0 1)) => ?_)
        · show tkDn tm_32 (58, [some (.inr (.inr (1, 0, 0))), some (.inl (nI u)), some (.inl (nI v)), some (.inl l), some (.inl h), some (.inl (rfF S (nI u) (nI v) l h 1))], [], (I, J, R)) _
          refine dn_run 1 (show tkDn tm_32 (60, [some (.inr (.inr (1, 0, 0))), some (.inl (nI u)), some (.inl (nI v)), some (.inl l), some (.inl h), some (.inl (rfF S (nI u) (nI v) l h 1))], [.inl (-14)], (I, J, R)) _ from ?_)
          refine dn_ret0 rfl rfl rfl rfl ?_
          rw [hL] at c4
          rw [show opGift S (nI u) (nI v) l h = (-14, S) by unfold opGift; rw [if_pos c1, hu2, hv2, if_neg hn, if_pos (Or.inl ((nI_leI (a := 60) (by decide) (by omega)).mp c4))]] at hQ
          have := hQ (I 1 0) hP
          rw [tk_so_id] at this
          exact this
        · show tkDn tm_32 (49, [some (.inr (.inr (1, 0, 0))), some (.inl (nI u)), some (.inl (nI v)), some (.inl l), some (.inl h), some (.inl (rfF S (nI u) (nI v) l h 1))], [], (I, J, R)) _
          rw [hL] at c4
          have hlt : sL S < 60 := Nat.lt_of_not_le (fun q => c4 (nI_le (a := 60) q (by omega)))
          refine dn_run 3 (show tkDn tm_32 (55, [some (.inr (.inr (1, 0, 0))), some (.inl (nI u)), some (.inl (nI v)), some (.inl l), some (.inl h), some (.inl (rfF S (nI u) (nI v) l h 1))], [.inl 6, .inl (I 1 0 0 2)], (I, J, R)) _ from ?_)
          refine dn_if rfl rfl rfl (fun (c5 : (I 1 0 0 2) < 6) => ?_) (fun (c5 : ¬ (I 1 0 0 2) < 6) => ?_)
          · show tkDn tm_32 (61, [some (.inr (.inr (1, 0, 0))), some (.inl (nI u)), some (.inl (nI v)), some (.inl l), some (.inl h), some (.inl (rfF S (nI u) (nI v) l h 1))], [], (I, J, R)) _
            rw [hG] at c5
            have hgt : sG S < 6 := (nI_ltI (b := 6) (by omega) (by decide)).mp c5
            rw [show opGift S (nI u) (nI v) l h = (nI (sL S), app (addG S) u v l h (nI (sG S))) by unfold opGift; rw [if_pos c1, hu2, hv2, if_neg hn, if_neg (by omega)]] at hQ
            refine dn_run 22 (show (vp_in (I 1 0 0 2) 6) ∧ tkDn tm_32 (96, [some (.inr (.inr (1, 0, 0))), some (.inl (nI u)), some (.inl (nI v)), some (.inl l), some (.inl h), some (.inl (rfF S (nI u) (nI v) l h 1))], [.inl (((I 1 0 0 2) + 1) - 1), .inl h, .inl l, .inl (nI v), .inl (nI u), .inr (.inr (1, 0, 0))], (tk_so (tk_so I 1 0 (tk_u2 (I 1 0) 9 ((I 1 0 0 2).toNatClampNeg) (I 1 0 0 1))) 1 0 (tk_u2 (tk_u2 (I 1 0) 9 ((I 1 0 0 2).toNatClampNeg) (I 1 0 0 1)) 0 2 ((I 1 0 0 2) + 1)), J, R)) _ from ⟨by rw [hG]; exact vp_in_nI hgt (by omega), ?_⟩)
            rw [tk_so_so]
            have hP2 : NetP (tk_so I 1 0 (tk_u2 (tk_u2 (I 1 0) 9 ((I 1 0 0 2).toNatClampNeg) (I 1 0 0 1)) 0 2 ((I 1 0 0 2) + 1)) 1 0) (addG S) := by rw [tk_so_same]; exact NetP_addG hP (by rw [hG, nI_clamp (by omega)]) hL (by rw [hG]; rw [nI_1])
            rw [show I 1 0 0 2 + 1 - 1 = nI (sG S) by rw [hG]; rw [nI_1, nI_sub1]]
            refine dn_call rfl rfl rfl rfl rfl (sn_append0 (S := addG S) hP2 hlt (fun X hX => ?_))
            rw [tk_so_so]
            show tkDn tm_32 (99, [some (.inr (.inr (1, 0, 0))), some (.inl (nI u)), some (.inl (nI v)), some (.inl l), some (.inl h), some (.inl (rfF S (nI u) (nI v) l h 1))], [.inl (nI (sL S))], (tk_so I 1 0 X, J, R)) _
            refine dn_ret0 rfl rfl rfl rfl ?_
            exact hQ X hX
          · show tkDn tm_32 (58, [some (.inr (.inr (1, 0, 0))), some (.inl (nI u)), some (.inl (nI v)), some (.inl l), some (.inl h), some (.inl (rfF S (nI u) (nI v) l h 1))], [], (I, J, R)) _
            refine dn_run 1 (show tkDn tm_32 (60, [some (.inr (.inr (1, 0, 0))), some (.inl (nI u)), some (.inl (nI v)), some (.inl l), some (.inl h), some (.inl (rfF S (nI u) (nI v) l h 1))], [.inl (-14)], (I, J, R)) _ from ?_)
            refine dn_ret0 rfl rfl rfl rfl ?_
            rw [hG] at c5
            rw [show opGift S (nI u) (nI v) l h = (-14, S) by unfold opGift; rw [if_pos c1, hu2, hv2, if_neg hn, if_pos (Or.inr (Nat.le_of_not_lt (fun z => c5 (nI_lt (b := 6) z (by decide)))))]] at hQ
            have := hQ (I 1 0) hP
            rw [tk_so_id] at this
            exact this
      · show tkDn tm_32 (37, [some (.inr (.inr (1, 0, 0))), some (.inl (nI u)), some (.inl (nI v)), some (.inl l), some (.inl h), some (.inl (rfF S (nI u) (nI v) l h 1))], [], (I, J, R)) _
        refine dn_run 1 (show tkDn tm_32 (39, [some (.inr (.inr (1, 0, 0))), some (.inl (nI u)), some (.inl (nI v)), some (.inl l), some (.inl h), some (.inl (rfF S (nI u) (nI v) l h 1))], [.inl (-13)], (I, J, R)) _ from ?_)
        refine dn_ret0 rfl rfl rfl rfl ?_
        rw [show opGift S (nI u) (nI v) l h = (-13, S) by unfold opGift; rw [if_pos c1, hu2, hv2, if_pos (Or.inr (by by_cases q : cfF S v 7 u = true; exact q; exact absurd (if_neg q) c3))]] at hQ
        have := hQ (I 1 0) hP
        rw [tk_so_id] at this
        exact this
  · show tkDn tm_32 (17, [some (.inr (.inr (1, 0, 0))), some (.inl u), some (.inl v), some (.inl l), some (.inl h), some (.inl (rfF S u v l h 1))], [], (I, J, R)) _
    refine dn_run 1 (show tkDn tm_32 (19, [some (.inr (.inr (1, 0, 0))), some (.inl u), some (.inl v), some (.inl l), some (.inl h), some (.inl (rfF S u v l h 1))], [.inl (rfF S u v l h 1)], (I, J, R)) _ from ?_)
    refine dn_ret0 rfl rfl rfl rfl ?_
    rw [show opGift S u v l h = (rfF S u v l h 1, S) by unfold opGift; rw [if_neg c1]] at hQ
    have := hQ (I 1 0) hP
    rw [tk_so_id] at this
    exact this
theorem sn_addGift1 {I : tkI} {J : tkJ} {R : Nat → Nat} {Q : tkQ} {S : tkS} (hP : NetP (I 1 1) S) (w : WF S) {u v l h : Int32} (hQ : ∀ X, NetP X (opGift S u v l h).2 → Q (some (.inl (opGift S u v l h).1)) (tk_so I 1 1 X, J, R)) : tkDn tm_32 (0, [some (.inr (.inr (1, 1, 0))), some (.inl u), some (.inl v), some (.inl l), some (.inl h), none], [], (I, J, R)) Q := by
  have hM16 := w.1
  have hL60 := w.2.1
  have hG6 := w.2.2.1
  have hL := hP.l
  have hG := hP.g
  refine dn_run 6 (show tkDn tm_32 (7, [some (.inr (.inr (1, 1, 0))), some (.inl u), some (.inl v), some (.inl l), some (.inl h), none], [.inl 1, .inl h, .inl l, .inl v, .inl u, .inr (.inr (1, 1, 0))], (I, J, R)) _ from ?_)
  refine dn_call rfl rfl rfl rfl rfl (sn_refuseLink hP ?_)
  show tkDn tm_32 (10, [some (.inr (.inr (1, 1, 0))), some (.inl u), some (.inl v), some (.inl l), some (.inl h), none], [.inl (rfF S u v l h 1)], (I, J, R)) _
  refine dn_run 2 (show tkDn tm_32 (14, [some (.inr (.inr (1, 1, 0))), some (.inl u), some (.inl v), some (.inl l), some (.inl h), some (.inl (rfF S u v l h 1))], [.inl (rfF S u v l h 1)], (I, J, R)) _ from ?_)
  refine dn_if rfl rfl rfl (fun (c1 : (rfF S u v l h 1) = 0) => ?_) (fun (c1 : ¬ (rfF S u v l h 1) = 0) => ?_)
  · show tkDn tm_32 (20, [some (.inr (.inr (1, 1, 0))), some (.inl u), some (.inl v), some (.inl l), some (.inl h), some (.inl (rfF S u v l h 1))], [], (I, J, R)) _
    obtain ⟨h1, h2, h3, h4⟩ := rfF_0 c1
    obtain ⟨u, hu, rfl, hu2⟩ := hasM_nat hM16 h1
    obtain ⟨v, hv, rfl, hv2⟩ := hasM_nat hM16 h2
    show tkDn tm_32 (20, [some (.inr (.inr (1, 1, 0))), some (.inl (nI u)), some (.inl (nI v)), some (.inl l), some (.inl h), some (.inl (rfF S (nI u) (nI v) l h 1))], [], (I, J, R)) _
    refine dn_run 2 (show tkDn tm_32 (22, [some (.inr (.inr (1, 1, 0))), some (.inl (nI u)), some (.inl (nI v)), some (.inl l), some (.inl h), some (.inl (rfF S (nI u) (nI v) l h 1))], [.inl (nI v), .inr (.inr (1, 1, 0))], (I, J, R)) _ from ?_)
    refine dn_call rfl rfl rfl rfl rfl (sn_isGiven hP w (by omega) ?_)
    show tkDn tm_32 (25, [some (.inr (.inr (1, 1, 0))), some (.inl (nI u)), some (.inl (nI v)), some (.inl l), some (.inl h), some (.inl (rfF S (nI u) (nI v) l h 1))], [.inl (if gt S v < sG S then 1 else 0)], (I, J, R)) _
    refine dn_if rfl rfl rfl (fun (c2 : ¬ (if gt S v < sG S then 1 else 0) = 0) => ?_) (fun (c2 : (if gt S v < sG S then 1 else 0) = 0) => ?_)
    · show tkDn tm_32 (37, [some (.inr (.inr (1, 1, 0))), some (.inl (nI u)), some (.inl (nI v)), some (.inl l), some (.inl h), some (.inl (rfF S (nI u) (nI v) l h 1))], [], (I, J, R)) _
      refine dn_run 1 (show tkDn tm_32 (39, [some (.inr (.inr (1, 1, 0))), some (.inl (nI u)), some (.inl (nI v)), some (.inl l), some (.inl h), some (.inl (rfF S (nI u) (nI v) l h 1))], [.inl (-13)], (I, J, R)) _ from ?_)
      refine dn_ret0 rfl rfl rfl rfl ?_
      rw [show opGift S (nI u) (nI v) l h = (-13, S) by unfold opGift; rw [if_pos c1, hu2, hv2, if_pos (Or.inl (by by_cases q : gt S v < sG S; exact q; exact absurd (if_neg q) c2))]] at hQ
      have := hQ (I 1 1) hP
      rw [tk_so_id] at this
      exact this
    · show tkDn tm_32 (28, [some (.inr (.inr (1, 1, 0))), some (.inl (nI u)), some (.inl (nI v)), some (.inl l), some (.inl h), some (.inl (rfF S (nI u) (nI v) l h 1))], [], (I, J, R)) _
      have hg : ¬ gt S v < sG S := fun q => by rw [if_pos q] at c2; exact absurd c2 (by decide)
      refine dn_run 3 (show tkDn tm_32 (31, [some (.inr (.inr (1, 1, 0))), some (.inl (nI u)), some (.inl (nI v)), some (.inl l), some (.inl h), some (.inl (rfF S (nI u) (nI v) l h 1))], [.inl (nI v), .inl (nI u), .inr (.inr (1, 1, 0))], (I, J, R)) _ from ?_)
      refine dn_call rfl rfl rfl rfl rfl (sn_comesFrom hP w hu (by omega) ?_)
      show tkDn tm_32 (34, [some (.inr (.inr (1, 1, 0))), some (.inl (nI u)), some (.inl (nI v)), some (.inl l), some (.inl h), some (.inl (rfF S (nI u) (nI v) l h 1))], [.inl (if cfF S v 7 u = true then 1 else 0)], (I, J, R)) _
      refine dn_if rfl rfl rfl (fun (c3 : (if cfF S v 7 u = true then 1 else 0) = 0) => ?_) (fun (c3 : ¬ (if cfF S v 7 u = true then 1 else 0) = 0) => ?_)
      · show tkDn tm_32 (40, [some (.inr (.inr (1, 1, 0))), some (.inl (nI u)), some (.inl (nI v)), some (.inl l), some (.inl h), some (.inl (rfF S (nI u) (nI v) l h 1))], [], (I, J, R)) _
        have hc : ¬ cfF S v 7 u = true := fun q => by rw [if_pos q] at c3; exact absurd c3 (by decide)
        have hn : ¬ (gt S v < sG S ∨ cfF S v 7 u = true) := fun q => q.elim hg hc
        refine dn_run 3 (show tkDn tm_32 (46, [some (.inr (.inr (1, 1, 0))), some (.inl (nI u)), some (.inl (nI v)), some (.inl l), some (.inl h), some (.inl (rfF S (nI u) (nI v) l h 1))], [.inl 60, .inl (I 1 1 0 1)], (I, J, R)) _ from ?_)
        refine dn_if rfl rfl rfl (fun (c4 : 60 ≤ (I 1 1 0 1)) => ?_) (fun (c4 : ¬ 60 ≤ (I 1 1 0 1)) => ?_)
        · show tkDn tm_32 (58, [some (.inr (.inr (1, 1, 0))), some (.inl (nI u)), some (.inl (nI v)), some (.inl l), some (.inl h), some (.inl (rfF S (nI u) (nI v) l h 1))], [], (I, J, R)) _
          refine dn_run 1 (show tkDn tm_32 (60, [some (.inr (.inr (1, 1, 0))), some (.inl (nI u)), some (.inl (nI v)), some (.inl l), some (.inl h), some (.inl (rfF S (nI u) (nI v) l h 1))], [.inl (-14)], (I, J, R)) _ from ?_)
          refine dn_ret0 rfl rfl rfl rfl ?_
          rw [hL] at c4
          rw [show opGift S (nI u) (nI v) l h = (-14, S) by unfold opGift; rw [if_pos c1, hu2, hv2, if_neg hn, if_pos (Or.inl ((nI_leI (a := 60) (by decide) (by omega)).mp c4))]] at hQ
          have := hQ (I 1 1) hP
          rw [tk_so_id] at this
          exact this
        · show tkDn tm_32 (49, [some (.inr (.inr (1, 1, 0))), some (.inl (nI u)), some (.inl (nI v)), some (.inl l), some (.inl h), some (.inl (rfF S (nI u) (nI v) l h 1))], [], (I, J, R)) _
          rw [hL] at c4
          have hlt : sL S < 60 := Nat.lt_of_not_le (fun q => c4 (nI_le (a := 60) q (by omega)))
          refine dn_run 3 (show tkDn tm_32 (55, [some (.inr (.inr (1, 1, 0))), some (.inl (nI u)), some (.inl (nI v)), some (.inl l), some (.inl h), some (.inl (rfF S (nI u) (nI v) l h 1))], [.inl 6, .inl (I 1 1 0 2)], (I, J, R)) _ from ?_)
          refine dn_if rfl rfl rfl (fun (c5 : (I 1 1 0 2) < 6) => ?_) (fun (c5 : ¬ (I 1 1 0 2) < 6) => ?_)
          · show tkDn tm_32 (61, [some (.inr (.inr (1, 1, 0))), some (.inl (nI u)), some (.inl (nI v)), some (.inl l), some (.inl h), some (.inl (rfF S (nI u) (nI v) l h 1))], [], (I, J, R)) _
            rw [hG] at c5
            have hgt : sG S < 6 := (nI_ltI (b := 6) (by omega) (by decide)).mp c5
            rw [show opGift S (nI u) (nI v) l h = (nI (sL S), app (addG S) u v l h (nI (sG S))) by unfold opGift; rw [if_pos c1, hu2, hv2, if_neg hn, if_neg (by omega)]] at hQ
            refine dn_run 22 (show (vp_in (I 1 1 0 2) 6) ∧ tkDn tm_32 (96, [some (.inr (.inr (1, 1, 0))), some (.inl (nI u)), some (.inl (nI v)), some (.inl l), some (.inl h), some (.inl (rfF S (nI u) (nI v) l h 1))], [.inl (((I 1 1 0 2) + 1) - 1), .inl h, .inl l, .inl (nI v), .inl (nI u), .inr (.inr (1, 1, 0))], (tk_so (tk_so I 1 1 (tk_u2 (I 1 1) 9 ((I 1 1 0 2).toNatClampNeg) (I 1 1 0 1))) 1 1 (tk_u2 (tk_u2 (I 1 1) 9 ((I 1 1 0 2).toNatClampNeg) (I 1 1 0 1)) 0 2 ((I 1 1 0 2) + 1)), J, R)) _ from ⟨by rw [hG]; exact vp_in_nI hgt (by omega), ?_⟩)
            rw [tk_so_so]
            have hP2 : NetP (tk_so I 1 1 (tk_u2 (tk_u2 (I 1 1) 9 ((I 1 1 0 2).toNatClampNeg) (I 1 1 0 1)) 0 2 ((I 1 1 0 2) + 1)) 1 1) (addG S) := by rw [tk_so_same]; exact NetP_addG hP (by rw [hG, nI_clamp (by omega)]) hL (by rw [hG]; rw [nI_1])
            rw [show I 1 1 0 2 + 1 - 1 = nI (sG S) by rw [hG]; rw [nI_1, nI_sub1]]
            refine dn_call rfl rfl rfl rfl rfl (sn_append1 (S := addG S) hP2 hlt (fun X hX => ?_))
            rw [tk_so_so]
            show tkDn tm_32 (99, [some (.inr (.inr (1, 1, 0))), some (.inl (nI u)), some (.inl (nI v)), some (.inl l), some (.inl h), some (.inl (rfF S (nI u) (nI v) l h 1))], [.inl (nI (sL S))], (tk_so I 1 1 X, J, R)) _
            refine dn_ret0 rfl rfl rfl rfl ?_
            exact hQ X hX
          · show tkDn tm_32 (58, [some (.inr (.inr (1, 1, 0))), some (.inl (nI u)), some (.inl (nI v)), some (.inl l), some (.inl h), some (.inl (rfF S (nI u) (nI v) l h 1))], [], (I, J, R)) _
            refine dn_run 1 (show tkDn tm_32 (60, [some (.inr (.inr (1, 1, 0))), some (.inl (nI u)), some (.inl (nI v)), some (.inl l), some (.inl h), some (.inl (rfF S (nI u) (nI v) l h 1))], [.inl (-14)], (I, J, R)) _ from ?_)
            refine dn_ret0 rfl rfl rfl rfl ?_
            rw [hG] at c5
            rw [show opGift S (nI u) (nI v) l h = (-14, S) by unfold opGift; rw [if_pos c1, hu2, hv2, if_neg hn, if_pos (Or.inr (Nat.le_of_not_lt (fun z => c5 (nI_lt (b := 6) z (by decide)))))]] at hQ
            have := hQ (I 1 1) hP
            rw [tk_so_id] at this
            exact this
      · show tkDn tm_32 (37, [some (.inr (.inr (1, 1, 0))), some (.inl (nI u)), some (.inl (nI v)), some (.inl l), some (.inl h), some (.inl (rfF S (nI u) (nI v) l h 1))], [], (I, J, R)) _
        refine dn_run 1 (show tkDn tm_32 (39, [some (.inr (.inr (1, 1, 0))), some (.inl (nI u)), some (.inl (nI v)), some (.inl l), some (.inl h), some (.inl (rfF S (nI u) (nI v) l h 1))], [.inl (-13)], (I, J, R)) _ from ?_)
        refine dn_ret0 rfl rfl rfl rfl ?_
        rw [show opGift S (nI u) (nI v) l h = (-13, S) by unfold opGift; rw [if_pos c1, hu2, hv2, if_pos (Or.inr (by by_cases q : cfF S v 7 u = true; exact q; exact absurd (if_neg q) c3))]] at hQ
        have := hQ (I 1 1) hP
        rw [tk_so_id] at this
        exact this
  · show tkDn tm_32 (17, [some (.inr (.inr (1, 1, 0))), some (.inl u), some (.inl v), some (.inl l), some (.inl h), some (.inl (rfF S u v l h 1))], [], (I, J, R)) _
    refine dn_run 1 (show tkDn tm_32 (19, [some (.inr (.inr (1, 1, 0))), some (.inl u), some (.inl v), some (.inl l), some (.inl h), some (.inl (rfF S u v l h 1))], [.inl (rfF S u v l h 1)], (I, J, R)) _ from ?_)
    refine dn_ret0 rfl rfl rfl rfl ?_
    rw [show opGift S u v l h = (rfF S u v l h 1, S) by unfold opGift; rw [if_neg c1]] at hQ
    have := hQ (I 1 1) hP
    rw [tk_so_id] at this
    exact this
theorem sn_addGift {I : tkI} {J : tkJ} {R : Nat → Nat} {b : Nat} (hb : b < 2) {Q : tkQ} {S : tkS} (hP : NetP (I 1 b) S) (w : WF S) {u v l h : Int32} (hQ : ∀ X, NetP X (opGift S u v l h).2 → Q (some (.inl (opGift S u v l h).1)) (tk_so I 1 b X, J, R)) : tkDn tm_32 (0, [some (.inr (.inr (1, b, 0))), some (.inl u), some (.inl v), some (.inl l), some (.inl h), none], [], (I, J, R)) Q := by
  match b, hb with
  | 0, _ => exact sn_addGift0 hP w hQ
  | 1, _ => exact sn_addGift1 hP w hQ
theorem sn_dropLastLink0 {I : tkI} {J : tkJ} {R : Nat → Nat} {Q : tkQ} {S : tkS} (hP : NetP (I 1 0) S) (w : WF S) (hQ : ∀ X, NetP X (opUndo S).2 → Q (some (.inl (opUndo S).1)) (tk_so I 1 0 X, J, R)) : tkDn tm_33 (0, [some (.inr (.inr (1, 0, 0)))], [], (I, J, R)) Q := by
  have hL60 := w.2.1
  have hG6 := w.2.2.1
  have hL := hP.l
  have hG := hP.g
  refine dn_run 2 (show tkDn tm_33 (4, [some (.inr (.inr (1, 0, 0)))], [.inl (I 1 0 0 1)], (I, J, R)) _ from ?_)
  refine dn_if rfl rfl rfl (fun (c1 : ¬ (I 1 0 0 1) = 0) => ?_) (fun (c1 : (I 1 0 0 1) = 0) => ?_)
  · show tkDn tm_33 (10, [some (.inr (.inr (1, 0, 0)))], [], (I, J, R)) _
    rw [hL] at c1
    have h0 : 0 < sL S := Nat.pos_of_ne_zero (fun q => c1 (by rw [q]; rfl))
    have e1 : I 1 0 0 1 - 1 = nI (sL S - 1) := by rw [hL]; obtain ⟨n, hn⟩ : ∃ n, sL S = n + 1 := ⟨sL S - 1, by omega⟩; rw [hn]; exact nI_sub1
    have e2 : I 1 0 8 (nI (sL S - 1)).toNatClampNeg = sgn S (sL S - 1) := hP.gn w (by omega)
    refine dn_run 6 (show tkDn tm_33 (20, [some (.inr (.inr (1, 0, 0)))], [], (tk_so I 1 0 (tk_u2 (I 1 0) 0 1 ((I 1 0 0 1) - 1)), J, R)) _ from ?_)
    rw [e1]
    show tkDn tm_33 (20, [some (.inr (.inr (1, 0, 0)))], [], (tk_so I 1 0 (tk_u2 (I 1 0) 0 1 (nI (sL S - 1))), J, R)) _
    refine dn_run 3 (show tkDn tm_33 (25, [some (.inr (.inr (1, 0, 0)))], [.inl (nI (sL S - 1)), .inr (.inr (1, 0, 0))], (tk_so I 1 0 (tk_u2 (I 1 0) 0 1 (nI (sL S - 1))), J, R)) _ from ?_)
    refine dn_call rfl rfl rfl rfl rfl (sn_isGift (vp_in_nI (by omega) (by omega)) ?_)
    show tkDn tm_33 (28, [some (.inr (.inr (1, 0, 0)))], [.inl (if I 1 0 8 (nI (sL S - 1)).toNatClampNeg = -9 then 0 else 1)], (tk_so I 1 0 (tk_u2 (I 1 0) 0 1 (nI (sL S - 1))), J, R)) _
    rw [e2]
    refine dn_if rfl rfl rfl (fun (c2 : (if sgn S (sL S - 1) = -9 then 0 else 1) = 0) => ?_) (fun (c2 : ¬ (if sgn S (sL S - 1) = -9 then 0 else 1) = 0) => ?_)
    · show tkDn tm_33 (41, [some (.inr (.inr (1, 0, 0)))], [], (tk_so I 1 0 (tk_u2 (I 1 0) 0 1 (nI (sL S - 1))), J, R)) _
      have hs : sgn S (sL S - 1) = -9 := by by_cases q : sgn S (sL S - 1) = -9; exact q; rw [if_neg q] at c2; exact absurd c2 (by decide)
      refine dn_run 2 (show tkDn tm_33 (45, [some (.inr (.inr (1, 0, 0)))], [.inl (nI (sL S - 1))], (tk_so I 1 0 (tk_u2 (I 1 0) 0 1 (nI (sL S - 1))), J, R)) _ from ?_)
      refine dn_ret0 rfl rfl rfl rfl ?_
      rw [show opUndo S = (nI (sL S - 1), (sM S, sL S - 1, sG S, S.2.2.2)) by unfold opUndo; rw [if_neg (by omega), if_pos hs]] at hQ
      exact hQ _ (NetP_undo1 hP h0 rfl)
    · show tkDn tm_33 (31, [some (.inr (.inr (1, 0, 0)))], [], (tk_so I 1 0 (tk_u2 (I 1 0) 0 1 (nI (sL S - 1))), J, R)) _
      have hs : ¬ sgn S (sL S - 1) = -9 := fun q => by rw [if_pos q] at c2; exact c2 rfl
      have hg0 : 0 < sG S := by rcases (w.2.2.2.1 (sL S - 1) (by omega)).2.2.2.2 with q | ⟨g, q, -⟩; exact absurd q hs; omega
      have e3 : I 1 0 0 2 - 1 = nI (sG S - 1) := by rw [hG]; obtain ⟨n, hn⟩ : ∃ n, sG S = n + 1 := ⟨sG S - 1, by omega⟩; rw [hn]; exact nI_sub1
      refine dn_run 8 (show tkDn tm_33 (45, [some (.inr (.inr (1, 0, 0)))], [.inl (nI (sL S - 1))], (tk_so (tk_so I 1 0 (tk_u2 (I 1 0) 0 1 (nI (sL S - 1)))) 1 0 (tk_u2 (tk_u2 (I 1 0) 0 1 (nI (sL S - 1))) 0 2 ((I 1 0 0 2) - 1)), J, R)) _ from ?_)
      rw [tk_so_so]
      refine dn_ret0 rfl rfl rfl rfl ?_
      rw [show opUndo S = (nI (sL S - 1), (sM S, sL S - 1, sG S - 1, S.2.2.2)) by unfold opUndo; rw [if_neg (by omega), if_neg hs]] at hQ
      exact hQ _ (NetP_undo hP (by omega) h0 rfl e3)
  · show tkDn tm_33 (7, [some (.inr (.inr (1, 0, 0)))], [], (I, J, R)) _
    refine dn_run 1 (show tkDn tm_33 (9, [some (.inr (.inr (1, 0, 0)))], [.inl (-13)], (I, J, R)) _ from ?_)
    refine dn_ret0 rfl rfl rfl rfl ?_
    rw [hL] at c1
    have h0 : sL S = 0 := (nI_eq (b := 0) (by omega) (by decide)).mp c1
    rw [show opUndo S = (-13, S) by unfold opUndo; rw [if_pos h0]] at hQ
    have := hQ (I 1 0) hP
    rw [tk_so_id] at this
    exact this
theorem sn_dropLastLink1 {I : tkI} {J : tkJ} {R : Nat → Nat} {Q : tkQ} {S : tkS} (hP : NetP (I 1 1) S) (w : WF S) (hQ : ∀ X, NetP X (opUndo S).2 → Q (some (.inl (opUndo S).1)) (tk_so I 1 1 X, J, R)) : tkDn tm_33 (0, [some (.inr (.inr (1, 1, 0)))], [], (I, J, R)) Q := by
  have hL60 := w.2.1
  have hG6 := w.2.2.1
  have hL := hP.l
  have hG := hP.g
  refine dn_run 2 (show tkDn tm_33 (4, [some (.inr (.inr (1, 1, 0)))], [.inl (I 1 1 0 1)], (I, J, R)) _ from ?_)
  refine dn_if rfl rfl rfl (fun (c1 : ¬ (I 1 1 0 1) = 0) => ?_) (fun (c1 : (I 1 1 0 1) = 0) => ?_)
  · show tkDn tm_33 (10, [some (.inr (.inr (1, 1, 0)))], [], (I, J, R)) _
    rw [hL] at c1
    have h0 : 0 < sL S := Nat.pos_of_ne_zero (fun q => c1 (by rw [q]; rfl))
    have e1 : I 1 1 0 1 - 1 = nI (sL S - 1) := by rw [hL]; obtain ⟨n, hn⟩ : ∃ n, sL S = n + 1 := ⟨sL S - 1, by omega⟩; rw [hn]; exact nI_sub1
    have e2 : I 1 1 8 (nI (sL S - 1)).toNatClampNeg = sgn S (sL S - 1) := hP.gn w (by omega)
    refine dn_run 6 (show tkDn tm_33 (20, [some (.inr (.inr (1, 1, 0)))], [], (tk_so I 1 1 (tk_u2 (I 1 1) 0 1 ((I 1 1 0 1) - 1)), J, R)) _ from ?_)
    rw [e1]
    show tkDn tm_33 (20, [some (.inr (.inr (1, 1, 0)))], [], (tk_so I 1 1 (tk_u2 (I 1 1) 0 1 (nI (sL S - 1))), J, R)) _
    refine dn_run 3 (show tkDn tm_33 (25, [some (.inr (.inr (1, 1, 0)))], [.inl (nI (sL S - 1)), .inr (.inr (1, 1, 0))], (tk_so I 1 1 (tk_u2 (I 1 1) 0 1 (nI (sL S - 1))), J, R)) _ from ?_)
    refine dn_call rfl rfl rfl rfl rfl (sn_isGift (vp_in_nI (by omega) (by omega)) ?_)
    show tkDn tm_33 (28, [some (.inr (.inr (1, 1, 0)))], [.inl (if I 1 1 8 (nI (sL S - 1)).toNatClampNeg = -9 then 0 else 1)], (tk_so I 1 1 (tk_u2 (I 1 1) 0 1 (nI (sL S - 1))), J, R)) _
    rw [e2]
    refine dn_if rfl rfl rfl (fun (c2 : (if sgn S (sL S - 1) = -9 then 0 else 1) = 0) => ?_) (fun (c2 : ¬ (if sgn S (sL S - 1) = -9 then 0 else 1) = 0) => ?_)
    · show tkDn tm_33 (41, [some (.inr (.inr (1, 1, 0)))], [], (tk_so I 1 1 (tk_u2 (I 1 1) 0 1 (nI (sL S - 1))), J, R)) _
      have hs : sgn S (sL S - 1) = -9 := by by_cases q : sgn S (sL S - 1) = -9; exact q; rw [if_neg q] at c2; exact absurd c2 (by decide)
      refine dn_run 2 (show tkDn tm_33 (45, [some (.inr (.inr (1, 1, 0)))], [.inl (nI (sL S - 1))], (tk_so I 1 1 (tk_u2 (I 1 1) 0 1 (nI (sL S - 1))), J, R)) _ from ?_)
      refine dn_ret0 rfl rfl rfl rfl ?_
      rw [show opUndo S = (nI (sL S - 1), (sM S, sL S - 1, sG S, S.2.2.2)) by unfold opUndo; rw [if_neg (by omega), if_pos hs]] at hQ
      exact hQ _ (NetP_undo1 hP h0 rfl)
    · show tkDn tm_33 (31, [some (.inr (.inr (1, 1, 0)))], [], (tk_so I 1 1 (tk_u2 (I 1 1) 0 1 (nI (sL S - 1))), J, R)) _
      have hs : ¬ sgn S (sL S - 1) = -9 := fun q => by rw [if_pos q] at c2; exact c2 rfl
      have hg0 : 0 < sG S := by rcases (w.2.2.2.1 (sL S - 1) (by omega)).2.2.2.2 with q | ⟨g, q, -⟩; exact absurd q hs; omega
      have e3 : I 1 1 0 2 - 1 = nI (sG S - 1) := by rw [hG]; obtain ⟨n, hn⟩ : ∃ n, sG S = n + 1 := ⟨sG S - 1, by omega⟩; rw [hn]; exact nI_sub1
      refine dn_run 8 (show tkDn tm_33 (45, [some (.inr (.inr (1, 1, 0)))], [.inl (nI (sL S - 1))], (tk_so (tk_so I 1 1 (tk_u2 (I 1 1) 0 1 (nI (sL S - 1)))) 1 1 (tk_u2 (tk_u2 (I 1 1) 0 1 (nI (sL S - 1))) 0 2 ((I 1 1 0 2) - 1)), J, R)) _ from ?_)
      rw [tk_so_so]
      refine dn_ret0 rfl rfl rfl rfl ?_
      rw [show opUndo S = (nI (sL S - 1), (sM S, sL S - 1, sG S - 1, S.2.2.2)) by unfold opUndo; rw [if_neg (by omega), if_neg hs]] at hQ
      exact hQ _ (NetP_undo hP (by omega) h0 rfl e3)
  · show tkDn tm_33 (7, [some (.inr (.inr (1, 1, 0)))], [], (I, J, R)) _
    refine dn_run 1 (show tkDn tm_33 (9, [some (.inr (.inr (1, 1, 0)))], [.inl (-13)], (I, J, R)) _ from ?_)
    refine dn_ret0 rfl rfl rfl rfl ?_
    rw [hL] at c1
    have h0 : sL S = 0 := (nI_eq (b := 0) (by omega) (by decide)).mp c1
    rw [show opUndo S = (-13, S) by unfold opUndo; rw [if_pos h0]] at hQ
    have := hQ (I 1 1) hP
    rw [tk_so_id] at this
    exact this
theorem sn_dropLastLink {I : tkI} {J : tkJ} {R : Nat → Nat} {b : Nat} (hb : b < 2) {Q : tkQ} {S : tkS} (hP : NetP (I 1 b) S) (w : WF S) (hQ : ∀ X, NetP X (opUndo S).2 → Q (some (.inl (opUndo S).1)) (tk_so I 1 b X, J, R)) : tkDn tm_33 (0, [some (.inr (.inr (1, b, 0)))], [], (I, J, R)) Q := by
  match b, hb with
  | 0, _ => exact sn_dropLastLink0 hP w hQ
  | 1, _ => exact sn_dropLastLink1 hP w hQ
theorem sn_setBounds0 {I : tkI} {J : tkJ} {R : Nat → Nat} {Q : tkQ} {S : tkS} (hP : NetP (I 1 0) S) (w : WF S) {k l h : Int32} (hQ : ∀ X, NetP X (opTight S k l h).2 → Q (some (.inl (opTight S k l h).1)) (tk_so I 1 0 X, J, R)) : tkDn tm_34 (0, [some (.inr (.inr (1, 0, 0))), some (.inl k), some (.inl l), some (.inl h)], [], (I, J, R)) Q := by
  have hL60 := w.2.1
  have hL := hP.l
  refine dn_run 2 (show tkDn tm_34 (2, [some (.inr (.inr (1, 0, 0))), some (.inl k), some (.inl l), some (.inl h)], [.inl k, .inr (.inr (1, 0, 0))], (I, J, R)) _ from ?_)
  refine dn_call rfl rfl rfl rfl rfl (sn_hasLink ?_)
  show tkDn tm_34 (5, [some (.inr (.inr (1, 0, 0))), some (.inl k), some (.inl l), some (.inl h)], [.inl (if 0 ≤ k ∧ k < I 1 0 0 1 then 1 else 0)], (I, J, R)) _
  rw [hL]
  refine dn_if rfl rfl rfl (fun (c1 : ¬ (if 0 ≤ k ∧ k < nI (sL S) then 1 else 0) = 0) => ?_) (fun (c1 : (if 0 ≤ k ∧ k < nI (sL S) then 1 else 0) = 0) => ?_)
  · show tkDn tm_34 (11, [some (.inr (.inr (1, 0, 0))), some (.inl k), some (.inl l), some (.inl h)], [], (I, J, R)) _
    have hk : 0 ≤ k ∧ k < nI (sL S) := by by_cases q : 0 ≤ k ∧ k < nI (sL S); exact q; exact absurd (if_neg q) c1
    obtain ⟨j, hj, rfl⟩ := hasL_nat hL60 hk
    have e2 := hP.gn w hj
    have hcl : (nI j).toNatClampNeg = j := nI_clamp (by omega)
    refine dn_run 4 (show tkDn tm_34 (15, [some (.inr (.inr (1, 0, 0))), some (.inl (nI j)), some (.inl l), some (.inl h)], [.inl (nI j), .inr (.inr (1, 0, 0)), .inl h, .inl l], (I, J, R)) _ from ?_)
    refine dn_call rfl rfl rfl rfl rfl (sn_isGift (vp_in_nI (by omega) (by omega)) ?_)
    show tkDn tm_34 (18, [some (.inr (.inr (1, 0, 0))), some (.inl (nI j)), some (.inl l), some (.inl h)], [.inl (if I 1 0 8 (nI j).toNatClampNeg = -9 then 0 else 1), .inl h, .inl l], (I, J, R)) _
    rw [e2]
    refine dn_if rfl rfl rfl (fun (c2 : (if sgn S j = -9 then 0 else 1) = 0) => ?_) (fun (c2 : ¬ (if sgn S j = -9 then 0 else 1) = 0) => ?_)
    · show tkDn tm_34 (25, [some (.inr (.inr (1, 0, 0))), some (.inl (nI j)), some (.inl l), some (.inl h)], [.inl h, .inl l], (I, J, R)) _
      have hs : sgn S j = -9 := by by_cases q : sgn S j = -9; exact q; rw [if_neg q] at c2; exact absurd c2 (by decide)
      refine dn_run 1 (show tkDn tm_34 (27, [some (.inr (.inr (1, 0, 0))), some (.inl (nI j)), some (.inl l), some (.inl h)], [.inl (-100000), .inl h, .inl l], (I, J, R)) _ from ?_)
      refine dn_call rfl rfl rfl rfl rfl (sn_fits ?_)
      show tkDn tm_34 (30, [some (.inr (.inr (1, 0, 0))), some (.inl (nI j)), some (.inl l), some (.inl h)], [.inl (if fitB l h (-100000) then 1 else 0)], (I, J, R)) _
      refine dn_if rfl rfl rfl (fun (c3 : ¬ (if fitB l h (-100000) then 1 else 0) = 0) => ?_) (fun (c3 : (if fitB l h (-100000) then 1 else 0) = 0) => ?_)
      · show tkDn tm_34 (36, [some (.inr (.inr (1, 0, 0))), some (.inl (nI j)), some (.inl l), some (.inl h)], [], (I, J, R)) _
        have hf : fitB l h (-100000) := by by_cases q : fitB l h (-100000); exact q; exact absurd (if_neg q) c3
        refine dn_run 11 (show (vp_in (nI j) 60) ∧ (vp_in (nI j) 60) ∧ tkDn tm_34 (51, [some (.inr (.inr (1, 0, 0))), some (.inl (nI j)), some (.inl l), some (.inl h)], [.inl 1], (tk_so (tk_so I 1 0 (tk_u2 (I 1 0) 6 ((nI j).toNatClampNeg) l)) 1 0 (tk_u2 (tk_u2 (I 1 0) 6 ((nI j).toNatClampNeg) l) 7 ((nI j).toNatClampNeg) h), J, R)) _ from ⟨vp_in_nI (by omega) (by omega), vp_in_nI (by omega) (by omega), ?_⟩)
        rw [tk_so_so]
        refine dn_ret0 rfl rfl rfl rfl ?_
        rw [show opTight S (nI j) l h = (1, (sM S, sL S, sG S, sf S, se S, tk_u1 (slo S) j l, tk_u1 (shi S) j h, sgn S, sgl S)) by unfold opTight; rw [if_pos hk, hcl, if_pos hs, if_pos hf]] at hQ
        rw [hcl]
        exact hQ _ (NetP_tight hP)
      · show tkDn tm_34 (33, [some (.inr (.inr (1, 0, 0))), some (.inl (nI j)), some (.inl l), some (.inl h)], [], (I, J, R)) _
        refine dn_run 1 (show tkDn tm_34 (35, [some (.inr (.inr (1, 0, 0))), some (.inl (nI j)), some (.inl l), some (.inl h)], [.inl (-12)], (I, J, R)) _ from ?_)
        refine dn_ret0 rfl rfl rfl rfl ?_
        have hf : ¬ fitB l h (-100000) := fun q => by rw [if_pos q] at c3; exact absurd c3 (by decide)
        rw [show opTight S (nI j) l h = (-12, S) by unfold opTight; rw [if_pos hk, hcl, if_pos hs, if_neg hf]] at hQ
        have := hQ (I 1 0) hP
        rw [tk_so_id] at this
        exact this
    · show tkDn tm_34 (21, [some (.inr (.inr (1, 0, 0))), some (.inl (nI j)), some (.inl l), some (.inl h)], [.inl h, .inl l], (I, J, R)) _
      have hs : ¬ sgn S j = -9 := fun q => by rw [if_pos q] at c2; exact c2 rfl
      refine dn_run 2 (show tkDn tm_34 (27, [some (.inr (.inr (1, 0, 0))), some (.inl (nI j)), some (.inl l), some (.inl h)], [.inl 1, .inl h, .inl l], (I, J, R)) _ from ?_)
      refine dn_call rfl rfl rfl rfl rfl (sn_fits ?_)
      show tkDn tm_34 (30, [some (.inr (.inr (1, 0, 0))), some (.inl (nI j)), some (.inl l), some (.inl h)], [.inl (if fitB l h 1 then 1 else 0)], (I, J, R)) _
      refine dn_if rfl rfl rfl (fun (c3 : ¬ (if fitB l h 1 then 1 else 0) = 0) => ?_) (fun (c3 : (if fitB l h 1 then 1 else 0) = 0) => ?_)
      · show tkDn tm_34 (36, [some (.inr (.inr (1, 0, 0))), some (.inl (nI j)), some (.inl l), some (.inl h)], [], (I, J, R)) _
        have hf : fitB l h 1 := by by_cases q : fitB l h 1; exact q; exact absurd (if_neg q) c3
        refine dn_run 11 (show (vp_in (nI j) 60) ∧ (vp_in (nI j) 60) ∧ tkDn tm_34 (51, [some (.inr (.inr (1, 0, 0))), some (.inl (nI j)), some (.inl l), some (.inl h)], [.inl 1], (tk_so (tk_so I 1 0 (tk_u2 (I 1 0) 6 ((nI j).toNatClampNeg) l)) 1 0 (tk_u2 (tk_u2 (I 1 0) 6 ((nI j).toNatClampNeg) l) 7 ((nI j).toNatClampNeg) h), J, R)) _ from ⟨vp_in_nI (by omega) (by omega), vp_in_nI (by omega) (by omega), ?_⟩)
        rw [tk_so_so]
        refine dn_ret0 rfl rfl rfl rfl ?_
        rw [show opTight S (nI j) l h = (1, (sM S, sL S, sG S, sf S, se S, tk_u1 (slo S) j l, tk_u1 (shi S) j h, sgn S, sgl S)) by unfold opTight; rw [if_pos hk, hcl, if_neg hs, if_pos hf]] at hQ
        rw [hcl]
        exact hQ _ (NetP_tight hP)
      · show tkDn tm_34 (33, [some (.inr (.inr (1, 0, 0))), some (.inl (nI j)), some (.inl l), some (.inl h)], [], (I, J, R)) _
        refine dn_run 1 (show tkDn tm_34 (35, [some (.inr (.inr (1, 0, 0))), some (.inl (nI j)), some (.inl l), some (.inl h)], [.inl (-12)], (I, J, R)) _ from ?_)
        refine dn_ret0 rfl rfl rfl rfl ?_
        have hf : ¬ fitB l h 1 := fun q => by rw [if_pos q] at c3; exact absurd c3 (by decide)
        rw [show opTight S (nI j) l h = (-12, S) by unfold opTight; rw [if_pos hk, hcl, if_neg hs, if_neg hf]] at hQ
        have := hQ (I 1 0) hP
        rw [tk_so_id] at this
        exact this
  · show tkDn tm_34 (8, [some (.inr (.inr (1, 0, 0))), some (.inl k), some (.inl l), some (.inl h)], [], (I, J, R)) _
    refine dn_run 1 (show tkDn tm_34 (10, [some (.inr (.inr (1, 0, 0))), some (.inl k), some (.inl l), some (.inl h)], [.inl (-11)], (I, J, R)) _ from ?_)
    refine dn_ret0 rfl rfl rfl rfl ?_
    rw [show opTight S k l h = (-11, S) by unfold opTight; rw [if_neg (fun q => by rw [if_pos q] at c1; exact absurd c1 (by decide))]] at hQ
    have := hQ (I 1 0) hP
    rw [tk_so_id] at this
    exact this
theorem sn_setBounds1 {I : tkI} {J : tkJ} {R : Nat → Nat} {Q : tkQ} {S : tkS} (hP : NetP (I 1 1) S) (w : WF S) {k l h : Int32} (hQ : ∀ X, NetP X (opTight S k l h).2 → Q (some (.inl (opTight S k l h).1)) (tk_so I 1 1 X, J, R)) : tkDn tm_34 (0, [some (.inr (.inr (1, 1, 0))), some (.inl k), some (.inl l), some (.inl h)], [], (I, J, R)) Q := by
  have hL60 := w.2.1
  have hL := hP.l
  refine dn_run 2 (show tkDn tm_34 (2, [some (.inr (.inr (1, 1, 0))), some (.inl k), some (.inl l), some (.inl h)], [.inl k, .inr (.inr (1, 1, 0))], (I, J, R)) _ from ?_)
  refine dn_call rfl rfl rfl rfl rfl (sn_hasLink ?_)
  show tkDn tm_34 (5, [some (.inr (.inr (1, 1, 0))), some (.inl k), some (.inl l), some (.inl h)], [.inl (if 0 ≤ k ∧ k < I 1 1 0 1 then 1 else 0)], (I, J, R)) _
  rw [hL]
  refine dn_if rfl rfl rfl (fun (c1 : ¬ (if 0 ≤ k ∧ k < nI (sL S) then 1 else 0) = 0) => ?_) (fun (c1 : (if 0 ≤ k ∧ k < nI (sL S) then 1 else 0) = 0) => ?_)
  · show tkDn tm_34 (11, [some (.inr (.inr (1, 1, 0))), some (.inl k), some (.inl l), some (.inl h)], [], (I, J, R)) _
    have hk : 0 ≤ k ∧ k < nI (sL S) := by by_cases q : 0 ≤ k ∧ k < nI (sL S); exact q; exact absurd (if_neg q) c1
    obtain ⟨j, hj, rfl⟩ := hasL_nat hL60 hk
    have e2 := hP.gn w hj
    have hcl : (nI j).toNatClampNeg = j := nI_clamp (by omega)
    refine dn_run 4 (show tkDn tm_34 (15, [some (.inr (.inr (1, 1, 0))), some (.inl (nI j)), some (.inl l), some (.inl h)], [.inl (nI j), .inr (.inr (1, 1, 0)), .inl h, .inl l], (I, J, R)) _ from ?_)
    refine dn_call rfl rfl rfl rfl rfl (sn_isGift (vp_in_nI (by omega) (by omega)) ?_)
    show tkDn tm_34 (18, [some (.inr (.inr (1, 1, 0))), some (.inl (nI j)), some (.inl l), some (.inl h)], [.inl (if I 1 1 8 (nI j).toNatClampNeg = -9 then 0 else 1), .inl h, .inl l], (I, J, R)) _
    rw [e2]
    refine dn_if rfl rfl rfl (fun (c2 : (if sgn S j = -9 then 0 else 1) = 0) => ?_) (fun (c2 : ¬ (if sgn S j = -9 then 0 else 1) = 0) => ?_)
    · show tkDn tm_34 (25, [some (.inr (.inr (1, 1, 0))), some (.inl (nI j)), some (.inl l), some (.inl h)], [.inl h, .inl l], (I, J, R)) _
      have hs : sgn S j = -9 := by by_cases q : sgn S j = -9; exact q; rw [if_neg q] at c2; exact absurd c2 (by decide)
      refine dn_run 1 (show tkDn tm_34 (27, [some (.inr (.inr (1, 1, 0))), some (.inl (nI j)), some (.inl l), some (.inl h)], [.inl (-100000), .inl h, .inl l], (I, J, R)) _ from ?_)
      refine dn_call rfl rfl rfl rfl rfl (sn_fits ?_)
      show tkDn tm_34 (30, [some (.inr (.inr (1, 1, 0))), some (.inl (nI j)), some (.inl l), some (.inl h)], [.inl (if fitB l h (-100000) then 1 else 0)], (I, J, R)) _
      refine dn_if rfl rfl rfl (fun (c3 : ¬ (if fitB l h (-100000) then 1 else 0) = 0) => ?_) (fun (c3 : (if fitB l h (-100000) then 1 else 0) = 0) => ?_)
      · show tkDn tm_34 (36, [some (.inr (.inr (1, 1, 0))), some (.inl (nI j)), some (.inl l), some (.inl h)], [], (I, J, R)) _
        have hf : fitB l h (-100000) := by by_cases q : fitB l h (-100000); exact q; exact absurd (if_neg q) c3
        refine dn_run 11 (show (vp_in (nI j) 60) ∧ (vp_in (nI j) 60) ∧ tkDn tm_34 (51, [some (.inr (.inr (1, 1, 0))), some (.inl (nI j)), some (.inl l), some (.inl h)], [.inl 1], (tk_so (tk_so I 1 1 (tk_u2 (I 1 1) 6 ((nI j).toNatClampNeg) l)) 1 1 (tk_u2 (tk_u2 (I 1 1) 6 ((nI j).toNatClampNeg) l) 7 ((nI j).toNatClampNeg) h), J, R)) _ from ⟨vp_in_nI (by omega) (by omega), vp_in_nI (by omega) (by omega), ?_⟩)
        rw [tk_so_so]
        refine dn_ret0 rfl rfl rfl rfl ?_
        rw [show opTight S (nI j) l h = (1, (sM S, sL S, sG S, sf S, se S, tk_u1 (slo S) j l, tk_u1 (shi S) j h, sgn S, sgl S)) by unfold opTight; rw [if_pos hk, hcl, if_pos hs, if_pos hf]] at hQ
        rw [hcl]
        exact hQ _ (NetP_tight hP)
      · show tkDn tm_34 (33, [some (.inr (.inr (1, 1, 0))), some (.inl (nI j)), some (.inl l), some (.inl h)], [], (I, J, R)) _
        refine dn_run 1 (show tkDn tm_34 (35, [some (.inr (.inr (1, 1, 0))), some (.inl (nI j)), some (.inl l), some (.inl h)], [.inl (-12)], (I, J, R)) _ from ?_)
        refine dn_ret0 rfl rfl rfl rfl ?_
        have hf : ¬ fitB l h (-100000) := fun q => by rw [if_pos q] at c3; exact absurd c3 (by decide)
        rw [show opTight S (nI j) l h = (-12, S) by unfold opTight; rw [if_pos hk, hcl, if_pos hs, if_neg hf]] at hQ
        have := hQ (I 1 1) hP
        rw [tk_so_id] at this
        exact this
    · show tkDn tm_34 (21, [some (.inr (.inr (1, 1, 0))), some (.inl (nI j)), some (.inl l), some (.inl h)], [.inl h, .inl l], (I, J, R)) _
      have hs : ¬ sgn S j = -9 := fun q => by rw [if_pos q] at c2; exact c2 rfl
      refine dn_run 2 (show tkDn tm_34 (27, [some (.inr (.inr (1, 1, 0))), some (.inl (nI j)), some (.inl l), some (.inl h)], [.inl 1, .inl h, .inl l], (I, J, R)) _ from ?_)
      refine dn_call rfl rfl rfl rfl rfl (sn_fits ?_)
      show tkDn tm_34 (30, [some (.inr (.inr (1, 1, 0))), some (.inl (nI j)), some (.inl l), some (.inl h)], [.inl (if fitB l h 1 then 1 else 0)], (I, J, R)) _
      refine dn_if rfl rfl rfl (fun (c3 : ¬ (if fitB l h 1 then 1 else 0) = 0) => ?_) (fun (c3 : (if fitB l h 1 then 1 else 0) = 0) => ?_)
      · show tkDn tm_34 (36, [some (.inr (.inr (1, 1, 0))), some (.inl (nI j)), some (.inl l), some (.inl h)], [], (I, J, R)) _
        have hf : fitB l h 1 := by by_cases q : fitB l h 1; exact q; exact absurd (if_neg q) c3
        refine dn_run 11 (show (vp_in (nI j) 60) ∧ (vp_in (nI j) 60) ∧ tkDn tm_34 (51, [some (.inr (.inr (1, 1, 0))), some (.inl (nI j)), some (.inl l), some (.inl h)], [.inl 1], (tk_so (tk_so I 1 1 (tk_u2 (I 1 1) 6 ((nI j).toNatClampNeg) l)) 1 1 (tk_u2 (tk_u2 (I 1 1) 6 ((nI j).toNatClampNeg) l) 7 ((nI j).toNatClampNeg) h), J, R)) _ from ⟨vp_in_nI (by omega) (by omega), vp_in_nI (by omega) (by omega), ?_⟩)
        rw [tk_so_so]
        refine dn_ret0 rfl rfl rfl rfl ?_
        rw [show opTight S (nI j) l h = (1, (sM S, sL S, sG S, sf S, se S, tk_u1 (slo S) j l, tk_u1 (shi S) j h, sgn S, sgl S)) by unfold opTight; rw [if_pos hk, hcl, if_neg hs, if_pos hf]] at hQ
        rw [hcl]
        exact hQ _ (NetP_tight hP)
      · show tkDn tm_34 (33, [some (.inr (.inr (1, 1, 0))), some (.inl (nI j)), some (.inl l), some (.inl h)], [], (I, J, R)) _
        refine dn_run 1 (show tkDn tm_34 (35, [some (.inr (.inr (1, 1, 0))), some (.inl (nI j)), some (.inl l), some (.inl h)], [.inl (-12)], (I, J, R)) _ from ?_)
        refine dn_ret0 rfl rfl rfl rfl ?_
        have hf : ¬ fitB l h 1 := fun q => by rw [if_pos q] at c3; exact absurd c3 (by decide)
        rw [show opTight S (nI j) l h = (-12, S) by unfold opTight; rw [if_pos hk, hcl, if_neg hs, if_neg hf]] at hQ
        have := hQ (I 1 1) hP
        rw [tk_so_id] at this
        exact this
  · show tkDn tm_34 (8, [some (.inr (.inr (1, 1, 0))), some (.inl k), some (.inl l), some (.inl h)], [], (I, J, R)) _
    refine dn_run 1 (show tkDn tm_34 (10, [some (.inr (.inr (1, 1, 0))), some (.inl k), some (.inl l), some (.inl h)], [.inl (-11)], (I, J, R)) _ from ?_)
    refine dn_ret0 rfl rfl rfl rfl ?_
    rw [show opTight S k l h = (-11, S) by unfold opTight; rw [if_neg (fun q => by rw [if_pos q] at c1; exact absurd c1 (by decide))]] at hQ
    have := hQ (I 1 1) hP
    rw [tk_so_id] at this
    exact this
theorem sn_setBounds {I : tkI} {J : tkJ} {R : Nat → Nat} {b : Nat} (hb : b < 2) {Q : tkQ} {S : tkS} (hP : NetP (I 1 b) S) (w : WF S) {k l h : Int32} (hQ : ∀ X, NetP X (opTight S k l h).2 → Q (some (.inl (opTight S k l h).1)) (tk_so I 1 b X, J, R)) : tkDn tm_34 (0, [some (.inr (.inr (1, b, 0))), some (.inl k), some (.inl l), some (.inl h)], [], (I, J, R)) Q := by
  match b, hb with
  | 0, _ => exact sn_setBounds0 hP w hQ
  | 1, _ => exact sn_setBounds1 hP w hQ
theorem sn_partOfLink {I : tkI} {J : tkJ} {R : Nat → Nat} {b : Nat} {Q : tkQ} {S : tkS} (hP : NetP (I 1 b) S) (w : WF S) {k z : Int32} (hQ : Q (some (.inl (lnkF S k z))) (I, J, R)) : tkDn tm_35 (0, [some (.inr (.inr (1, b, 0))), some (.inl k), some (.inl z)], [], (I, J, R)) Q := by
  have hL60 := w.2.1
  have hL := hP.l
  refine dn_run 2 (show tkDn tm_35 (2, [some (.inr (.inr (1, b, 0))), some (.inl k), some (.inl z)], [.inl k, .inr (.inr (1, b, 0))], (I, J, R)) _ from ?_)
  refine dn_call rfl rfl rfl rfl rfl (sn_hasLink ?_)
  show tkDn tm_35 (5, [some (.inr (.inr (1, b, 0))), some (.inl k), some (.inl z)], [.inl (if 0 ≤ k ∧ k < I 1 b 0 1 then 1 else 0)], (I, J, R)) _
  rw [hL]
  refine dn_if rfl rfl rfl (fun (c1 : ¬ (if 0 ≤ k ∧ k < nI (sL S) then 1 else 0) = 0) => ?_) (fun (c1 : (if 0 ≤ k ∧ k < nI (sL S) then 1 else 0) = 0) => ?_)
  · show tkDn tm_35 (11, [some (.inr (.inr (1, b, 0))), some (.inl k), some (.inl z)], [], (I, J, R)) _
    have hk : 0 ≤ k ∧ k < nI (sL S) := by by_cases q : 0 ≤ k ∧ k < nI (sL S); exact q; exact absurd (if_neg q) c1
    obtain ⟨j, hj, rfl⟩ := hasL_nat hL60 hk
    have hcl : (nI j).toNatClampNeg = j := nI_clamp (by omega)
    unfold lnkF at hQ
    rw [if_pos hk, hcl] at hQ
    refine dn_run 1 (show tkDn tm_35 (12, [some (.inr (.inr (1, b, 0))), some (.inl (nI j)), some (.inl z)], [.inl z], (I, J, R)) _ from ?_)
    by_cases k0 : z = 0
    · subst k0
      refine dn_sw (t := 48) rfl (by decide) (by decide) ?_
      show tkDn tm_35 (48, [some (.inr (.inr (1, b, 0))), some (.inl (nI j)), some (.inl 0)], [], (I, J, R)) _
      have e := hP.fr w hj
      refine dn_run 4 (show (vp_in (nI j) 60) ∧ tkDn tm_35 (54, [some (.inr (.inr (1, b, 0))), some (.inl (nI j)), some (.inl 0)], [.inl (I 1 b 4 ((nI j).toNatClampNeg))], (I, J, R)) _ from ⟨vp_in_nI (by omega) (by omega), ?_⟩)
      rw [e]
      refine dn_ret0 rfl rfl rfl rfl ?_
      rw [if_pos rfl] at hQ
      exact hQ
    by_cases k1 : z = 1
    · subst k1
      refine dn_sw (t := 55) rfl (by decide) (by decide) ?_
      show tkDn tm_35 (55, [some (.inr (.inr (1, b, 0))), some (.inl (nI j)), some (.inl 1)], [], (I, J, R)) _
      have e := hP.en w hj
      refine dn_run 4 (show (vp_in (nI j) 60) ∧ tkDn tm_35 (61, [some (.inr (.inr (1, b, 0))), some (.inl (nI j)), some (.inl 1)], [.inl (I 1 b 5 ((nI j).toNatClampNeg))], (I, J, R)) _ from ⟨vp_in_nI (by omega) (by omega), ?_⟩)
      rw [e]
      refine dn_ret0 rfl rfl rfl rfl ?_
      rw [if_neg (by decide)] at hQ
      rw [if_pos rfl] at hQ
      exact hQ
    by_cases k2 : z = 2
    · subst k2
      refine dn_sw (t := 62) rfl (by decide) (by decide) ?_
      show tkDn tm_35 (62, [some (.inr (.inr (1, b, 0))), some (.inl (nI j)), some (.inl 2)], [], (I, J, R)) _
      have e := hP.lo w hj
      refine dn_run 4 (show (vp_in (nI j) 60) ∧ tkDn tm_35 (68, [some (.inr (.inr (1, b, 0))), some (.inl (nI j)), some (.inl 2)], [.inl (I 1 b 6 ((nI j).toNatClampNeg))], (I, J, R)) _ from ⟨vp_in_nI (by omega) (by omega), ?_⟩)
      rw [e]
      refine dn_ret0 rfl rfl rfl rfl ?_
      rw [if_neg (by decide)] at hQ
      rw [if_neg (by decide)] at hQ
      rw [if_pos rfl] at hQ
      exact hQ
    by_cases k3 : z = 3
    · subst k3
      refine dn_sw (t := 69) rfl (by decide) (by decide) ?_
      show tkDn tm_35 (69, [some (.inr (.inr (1, b, 0))), some (.inl (nI j)), some (.inl 3)], [], (I, J, R)) _
      have e := hP.hi w hj
      refine dn_run 4 (show (vp_in (nI j) 60) ∧ tkDn tm_35 (75, [some (.inr (.inr (1, b, 0))), some (.inl (nI j)), some (.inl 3)], [.inl (I 1 b 7 ((nI j).toNatClampNeg))], (I, J, R)) _ from ⟨vp_in_nI (by omega) (by omega), ?_⟩)
      rw [e]
      refine dn_ret0 rfl rfl rfl rfl ?_
      rw [if_neg (by decide)] at hQ
      rw [if_neg (by decide)] at hQ
      rw [if_neg (by decide)] at hQ
      rw [if_pos rfl] at hQ
      exact hQ
    by_cases k4 : z = 4
    · subst k4
      refine dn_sw (t := 76) rfl (by decide) (by decide) ?_
      show tkDn tm_35 (76, [some (.inr (.inr (1, b, 0))), some (.inl (nI j)), some (.inl 4)], [], (I, J, R)) _
      have e := hP.gn w hj
      refine dn_run 4 (show (vp_in (nI j) 60) ∧ tkDn tm_35 (82, [some (.inr (.inr (1, b, 0))), some (.inl (nI j)), some (.inl 4)], [.inl (I 1 b 8 ((nI j).toNatClampNeg))], (I, J, R)) _ from ⟨vp_in_nI (by omega) (by omega), ?_⟩)
      rw [e]
      refine dn_ret0 rfl rfl rfl rfl ?_
      rw [if_neg (by decide)] at hQ
      rw [if_neg (by decide)] at hQ
      rw [if_neg (by decide)] at hQ
      rw [if_neg (by decide)] at hQ
      rw [if_pos rfl] at hQ
      exact hQ
    refine dn_sw (t := 83) rfl (by decide) (by rw [sw_out (by have := lv_neT k0 (show (0 : Int32).toInt = 0 by decide); have := lv_neT k1 (show (1 : Int32).toInt = 1 by decide); have := lv_neT k2 (show (2 : Int32).toInt = 2 by decide); have := lv_neT k3 (show (3 : Int32).toInt = 3 by decide); have := lv_neT k4 (show (4 : Int32).toInt = 4 by decide); omega)]; rfl) ?_
    show tkDn tm_35 (83, [some (.inr (.inr (1, b, 0))), some (.inl (nI j)), some (.inl z)], [], (I, J, R)) _
    refine dn_run 1 (show tkDn tm_35 (85, [some (.inr (.inr (1, b, 0))), some (.inl (nI j)), some (.inl z)], [.inl (-12)], (I, J, R)) _ from ?_)
    refine dn_ret0 rfl rfl rfl rfl ?_
    rw [if_neg k0, if_neg k1, if_neg k2, if_neg k3, if_neg k4] at hQ
    exact hQ
  · show tkDn tm_35 (8, [some (.inr (.inr (1, b, 0))), some (.inl k), some (.inl z)], [], (I, J, R)) _
    refine dn_run 1 (show tkDn tm_35 (10, [some (.inr (.inr (1, b, 0))), some (.inl k), some (.inl z)], [.inl (-11)], (I, J, R)) _ from ?_)
    refine dn_ret0 rfl rfl rfl rfl ?_
    unfold lnkF at hQ
    rw [if_neg (fun q => by rw [if_pos q] at c1; exact absurd c1 (by decide))] at hQ
    exact hQ
theorem sn_clear0 {I : tkI} {J : tkJ} {R : Nat → Nat} {Q : tkQ} {S : tkS} (hQ : ∀ X, NetP X (0, 0, 0, S.2.2.2) → Q none (tk_so I 1 0 X, J, R)) : tkDn tm_11 (0, [some (.inr (.inr (1, 0, 0)))], [], (I, J, R)) Q := by
  refine dn_run 9 (show tkDn tm_11 (15, [some (.inr (.inr (1, 0, 0)))], [], (tk_so (tk_so (tk_so I 1 0 (tk_u2 (I 1 0) 0 0 0)) 1 0 (tk_u2 (tk_u2 (I 1 0) 0 0 0) 0 1 0)) 1 0 (tk_u2 (tk_u2 (tk_u2 (I 1 0) 0 0 0) 0 1 0) 0 2 0), J, R)) _ from ?_)
  rw [tk_so_so, tk_so_so]
  refine dn_ret0 rfl rfl rfl rfl ?_
  refine hQ _ ⟨by rw [tk_u2_0 (by decide), tk_u2_0 (by decide), tk_u2_1]; rfl, by rw [tk_u2_0 (by decide), tk_u2_1]; rfl, by rw [tk_u2_1]; rfl, fun j hj => absurd hj (Nat.not_lt_zero _), fun g hg => absurd hg (Nat.not_lt_zero _)⟩
theorem sn_clear1 {I : tkI} {J : tkJ} {R : Nat → Nat} {Q : tkQ} {S : tkS} (hQ : ∀ X, NetP X (0, 0, 0, S.2.2.2) → Q none (tk_so I 1 1 X, J, R)) : tkDn tm_11 (0, [some (.inr (.inr (1, 1, 0)))], [], (I, J, R)) Q := by
  refine dn_run 9 (show tkDn tm_11 (15, [some (.inr (.inr (1, 1, 0)))], [], (tk_so (tk_so (tk_so I 1 1 (tk_u2 (I 1 1) 0 0 0)) 1 1 (tk_u2 (tk_u2 (I 1 1) 0 0 0) 0 1 0)) 1 1 (tk_u2 (tk_u2 (tk_u2 (I 1 1) 0 0 0) 0 1 0) 0 2 0), J, R)) _ from ?_)
  rw [tk_so_so, tk_so_so]
  refine dn_ret0 rfl rfl rfl rfl ?_
  refine hQ _ ⟨by rw [tk_u2_0 (by decide), tk_u2_0 (by decide), tk_u2_1]; rfl, by rw [tk_u2_0 (by decide), tk_u2_1]; rfl, by rw [tk_u2_1]; rfl, fun j hj => absurd hj (Nat.not_lt_zero _), fun g hg => absurd hg (Nat.not_lt_zero _)⟩
theorem sn_clear {I : tkI} {J : tkJ} {R : Nat → Nat} {b : Nat} (hb : b < 2) {Q : tkQ} {S : tkS} (hQ : ∀ X, NetP X (0, 0, 0, S.2.2.2) → Q none (tk_so I 1 b X, J, R)) : tkDn tm_11 (0, [some (.inr (.inr (1, b, 0)))], [], (I, J, R)) Q := by
  match b, hb with
  | 0, _ => exact sn_clear0 (S := S) hQ
  | 1, _ => exact sn_clear1 (S := S) hQ
