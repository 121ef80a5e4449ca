/-! the reference: wish, gift, undo, tighten, link -/
theorem sm_wish {I : tkI} {J : tkJ} {R : Nat → Nat} {Q : tkQ} {S : tkS} (hP : NetP (I 6 0) S) (w : WF S) {u v l h : Int32} (hQ : ∀ X, NetP X (opWish S u v l h).2 → mOth (I 6 0) X → mFl (opWish S u v l h).1 (I 6 0) X → Q (some (.inl (opWish S u v l h).1)) (tk_so I 6 0 X, J, R)) : tkDn tm_133 (0, [some (.inr (.inr (6, 0, 0))), some (.inl u), some (.inl v), some (.inl l), some (.inl h)], [], (I, J, R)) Q := by
  have hM16 := w.1
  have hL60 := w.2.1
  have hL := hP.l
  refine dn_run 2 (show tkDn tm_133 (2, [some (.inr (.inr (6, 0, 0))), some (.inl u), some (.inl v), some (.inl l), some (.inl h)], [.inl u, .inr (.inr (6, 0, 0))], (I, J, R)) _ from ?_)
  refine dn_call rfl rfl rfl rfl rfl (sm_noMoment hP w ?_)
  show tkDn tm_133 (5, [some (.inr (.inr (6, 0, 0))), some (.inl u), some (.inl v), some (.inl l), some (.inl h)], [.inl (if hasM S u then 0 else 1)], (I, J, R)) _
  refine dn_if rfl rfl rfl (fun (c1 : ¬ (if hasM S u then 0 else 1) = 0) => ?_) (fun (c1 : (if hasM S u then 0 else 1) = 0) => ?_)
  · show tkDn tm_133 (16, [some (.inr (.inr (6, 0, 0))), some (.inl u), some (.inl v), some (.inl l), some (.inl h)], [], (I, J, R)) _
    refine dn_run 1 (show tkDn tm_133 (18, [some (.inr (.inr (6, 0, 0))), some (.inl u), some (.inl v), some (.inl l), some (.inl h)], [.inl (-11)], (I, J, R)) _ from ?_)
    refine dn_ret0 rfl rfl rfl rfl ?_
    have hrf : rfF S u v l h (-100000) = -11 := by unfold rfF; rw [if_pos (fun q => by rw [if_pos q.1] at c1; exact absurd rfl c1)]
    rw [show opWish S u v l h = (-11, S) by unfold opWish; rw [hrf]; rw [if_neg (by decide)]] at hQ
    have := hQ (I 6 0) hP mOth.rfl' ⟨fun _ => ⟨rfl, rfl⟩, fun q => absurd (show ((-11) : Int32) < 0 by decide) q⟩
    rw [tk_so_id] at this
    exact this
  · show tkDn tm_133 (8, [some (.inr (.inr (6, 0, 0))), some (.inl u), some (.inl v), some (.inl l), some (.inl h)], [], (I, J, R)) _
    have k1 : hasM S u := by by_cases q : hasM S u; exact q; rw [if_neg q] at c1; exact absurd c1 (by decide)
    refine dn_run 2 (show tkDn tm_133 (10, [some (.inr (.inr (6, 0, 0))), some (.inl u), some (.inl v), some (.inl l), some (.inl h)], [.inl v, .inr (.inr (6, 0, 0))], (I, J, R)) _ from ?_)
    refine dn_call rfl rfl rfl rfl rfl (sm_noMoment hP w ?_)
    show tkDn tm_133 (13, [some (.inr (.inr (6, 0, 0))), some (.inl u), some (.inl v), some (.inl l), some (.inl h)], [.inl (if hasM S v then 0 else 1)], (I, J, R)) _
    refine dn_if rfl rfl rfl (fun (c2 : (if hasM S v then 0 else 1) = 0) => ?_) (fun (c2 : ¬ (if hasM S v then 0 else 1) = 0) => ?_)
    · show tkDn tm_133 (19, [some (.inr (.inr (6, 0, 0))), some (.inl u), some (.inl v), some (.inl l), some (.inl h)], [], (I, J, R)) _
      have k2 : hasM S v := by by_cases q : hasM S v; exact q; rw [if_neg q] at c2; exact absurd c2 (by decide)
      refine dn_run 2 (show tkDn tm_133 (21, [some (.inr (.inr (6, 0, 0))), some (.inl u), some (.inl v), some (.inl l), some (.inl h)], [.inl v, .inl u], (I, J, R)) _ from ?_)
      refine dn_if rfl rfl rfl (fun (c3 : ¬ u = v) => ?_) (fun (c3 : u = v) => ?_)
      · show tkDn tm_133 (27, [some (.inr (.inr (6, 0, 0))), some (.inl u), some (.inl v), some (.inl l), some (.inl h)], [], (I, J, R)) _
        refine dn_run 2 (show tkDn tm_133 (30, [some (.inr (.inr (6, 0, 0))), some (.inl u), some (.inl v), some (.inl l), some (.inl h)], [.inl h, .inl l], (I, J, R)) _ from ?_)
        refine dn_call rfl rfl rfl rfl rfl (sm_areBounds ?_)
        show tkDn tm_133 (33, [some (.inr (.inr (6, 0, 0))), some (.inl u), some (.inl v), some (.inl l), some (.inl h)], [.inl (if fitB l h (-100000) then 1 else 0)], (I, J, R)) _
        refine dn_if rfl rfl rfl (fun (c4 : ¬ (if fitB l h (-100000) then 1 else 0) = 0) => ?_) (fun (c4 : (if fitB l h (-100000) then 1 else 0) = 0) => ?_)
        · show tkDn tm_133 (39, [some (.inr (.inr (6, 0, 0))), some (.inl u), some (.inl v), some (.inl l), some (.inl h)], [], (I, J, R)) _
          have k4 : fitB l h (-100000) := by by_cases q : fitB l h (-100000); exact q; exact absurd (if_neg q) c4
          have hrf : rfF S u v l h (-100000) = 0 := by unfold rfF; rw [if_neg (fun q => q ⟨k1, k2⟩), if_neg c3, if_pos k4]
          refine dn_run 3 (show tkDn tm_133 (45, [some (.inr (.inr (6, 0, 0))), some (.inl u), some (.inl v), some (.inl l), some (.inl h)], [.inl 60, .inl (I 6 0 0 1)], (I, J, R)) _ from ?_)
          refine dn_if rfl rfl rfl (fun (c5 : ¬ (I 6 0 0 1) = 60) => ?_) (fun (c5 : (I 6 0 0 1) = 60) => ?_)
          · show tkDn tm_133 (53, [some (.inr (.inr (6, 0, 0))), some (.inl u), some (.inl v), some (.inl l), some (.inl h)], [], (I, J, R)) _
            rw [hL] at c5
            have hlt : sL S < 60 := Nat.lt_of_le_of_ne hL60 (fun z => c5 (by rw [z]; rfl))
            rw [show opWish S u v l h = (nI (sL S), app S u.toNatClampNeg v.toNatClampNeg l h (-9)) by unfold opWish; rw [if_pos hrf, if_neg (by omega)]] at hQ
            obtain ⟨u, hu, rfl, hu2⟩ := hasM_nat hM16 k1
            obtain ⟨v, hv, rfl, hv2⟩ := hasM_nat hM16 k2
            rw [hu2, hv2] at hQ
            show tkDn tm_133 (53, [some (.inr (.inr (6, 0, 0))), some (.inl (nI u)), some (.inl (nI v)), some (.inl l), some (.inl h)], [], (I, J, R)) _
            refine dn_run 6 (show tkDn tm_133 (61, [some (.inr (.inr (6, 0, 0))), some (.inl (nI u)), some (.inl (nI v)), some (.inl l), some (.inl h)], [.inl (-9), .inl h, .inl l, .inl (nI v), .inl (nI u), .inr (.inr (6, 0, 0))], (I, J, R)) _ from ?_)
            refine dn_call rfl rfl rfl rfl rfl (sm_added hP hlt (fun X hX h1 h2 => ?_))
            show tkDn tm_133 (64, [some (.inr (.inr (6, 0, 0))), some (.inl (nI u)), some (.inl (nI v)), some (.inl l), some (.inl h)], [.inl (nI (sL S))], (tk_so I 6 0 X, J, R)) _
            refine dn_ret0 rfl rfl rfl rfl ?_
            exact hQ X hX h1 h2
          · show tkDn tm_133 (48, [some (.inr (.inr (6, 0, 0))), some (.inl u), some (.inl v), some (.inl l), some (.inl h)], [], (I, J, R)) _
            refine dn_run 2 (show tkDn tm_133 (64, [some (.inr (.inr (6, 0, 0))), some (.inl u), some (.inl v), some (.inl l), some (.inl h)], [.inl (-14)], (I, J, R)) _ from ?_)
            refine dn_ret0 rfl rfl rfl rfl ?_
            rw [hL] at c5
            have hlt : sL S = 60 := (nI_eq (b := 60) (by omega) (by decide)).mp c5
            rw [show opWish S u v l h = (-14, S) by unfold opWish; rw [if_pos hrf, if_pos (by omega)]] at hQ
            have := hQ (I 6 0) hP mOth.rfl' ⟨fun _ => ⟨rfl, rfl⟩, fun q => absurd (show ((-14) : Int32) < 0 by decide) q⟩
            rw [tk_so_id] at this
            exact this
        · show tkDn tm_133 (36, [some (.inr (.inr (6, 0, 0))), some (.inl u), some (.inl v), some (.inl l), some (.inl h)], [], (I, J, R)) _
          refine dn_run 1 (show tkDn tm_133 (38, [some (.inr (.inr (6, 0, 0))), some (.inl u), some (.inl v), some (.inl l), some (.inl h)], [.inl (-12)], (I, J, R)) _ from ?_)
          refine dn_ret0 rfl rfl rfl rfl ?_
          have hrf : rfF S u v l h (-100000) = -12 := by unfold rfF; rw [if_neg (fun q => q ⟨k1, k2⟩), if_neg c3, if_neg (fun q => by rw [if_pos q] at c4; exact absurd c4 (by decide))]
          rw [show opWish S u v l h = (-12, S) by unfold opWish; rw [hrf]; rw [if_neg (by decide)]] at hQ
          have := hQ (I 6 0) hP mOth.rfl' ⟨fun _ => ⟨rfl, rfl⟩, fun q => absurd (show ((-12) : Int32) < 0 by decide) q⟩
          rw [tk_so_id] at this
          exact this
      · show tkDn tm_133 (24, [some (.inr (.inr (6, 0, 0))), some (.inl u), some (.inl v), some (.inl l), some (.inl h)], [], (I, J, R)) _
        refine dn_run 1 (show tkDn tm_133 (26, [some (.inr (.inr (6, 0, 0))), some (.inl u), some (.inl v), some (.inl l), some (.inl h)], [.inl (-13)], (I, J, R)) _ from ?_)
        refine dn_ret0 rfl rfl rfl rfl ?_
        have hrf : rfF S u v l h (-100000) = -13 := by unfold rfF; rw [if_neg (fun q => q ⟨k1, k2⟩), if_pos c3]
        rw [show opWish S u v l h = (-13, S) by unfold opWish; rw [hrf]; rw [if_neg (by decide)]] at hQ
        have := hQ (I 6 0) hP mOth.rfl' ⟨fun _ => ⟨rfl, rfl⟩, fun q => absurd (show ((-13) : Int32) < 0 by decide) q⟩
        rw [tk_so_id] at this
        exact this
    · show tkDn tm_133 (16, [some (.inr (.inr (6, 0, 0))), some (.inl u), some (.inl v), some (.inl l), some (.inl h)], [], (I, J, R)) _
      refine dn_run 1 (show tkDn tm_133 (18, [some (.inr (.inr (6, 0, 0))), some (.inl u), some (.inl v), some (.inl l), some (.inl h)], [.inl (-11)], (I, J, R)) _ from ?_)
      refine dn_ret0 rfl rfl rfl rfl ?_
      have hrf : rfF S u v l h (-100000) = -11 := by unfold rfF; rw [if_pos (fun q => by rw [if_pos q.2] at c2; exact absurd rfl c2)]
      rw [show opWish S u v l h = (-11, S) by unfold opWish; rw [hrf]; rw [if_neg (by decide)]] at hQ
      have := hQ (I 6 0) hP mOth.rfl' ⟨fun _ => ⟨rfl, rfl⟩, fun q => absurd (show ((-11) : Int32) < 0 by decide) q⟩
      rw [tk_so_id] at this
      exact this
theorem sm_gift {I : tkI} {J : tkJ} {R : Nat → Nat} {Q : tkQ} {S : tkS} (hP : NetP (I 6 0) S) (w : WF S) {u v l h : Int32} (hQ : ∀ X, NetP X (opGift S u v l h).2 → mOth (I 6 0) X → mFl (opGift S u v l h).1 (I 6 0) X → Q (some (.inl (opGift S u v l h).1)) (tk_so I 6 0 X, J, R)) : tkDn tm_135 (0, [some (.inr (.inr (6, 0, 0))), some (.inl u), some (.inl v), some (.inl l), some (.inl h)], [], (I, J, R)) Q := by
  have hM16 := w.1
  have hL60 := w.2.1
  have hG6 := w.2.2.1
  have hL := hP.l
  have hG := hP.g
  refine dn_run 2 (show tkDn tm_135 (2, [some (.inr (.inr (6, 0, 0))), some (.inl u), some (.inl v), some (.inl l), some (.inl h)], [.inl u, .inr (.inr (6, 0, 0))], (I, J, R)) _ from ?_)
  refine dn_call rfl rfl rfl rfl rfl (sm_noMoment hP w ?_)
  show tkDn tm_135 (5, [some (.inr (.inr (6, 0, 0))), some (.inl u), some (.inl v), some (.inl l), some (.inl h)], [.inl (if hasM S u then 0 else 1)], (I, J, R)) _
  refine dn_if rfl rfl rfl (fun (c1 : ¬ (if hasM S u then 0 else 1) = 0) => ?_) (fun (c1 : (if hasM S u then 0 else 1) = 0) => ?_)
  · show tkDn tm_135 (16, [some (.inr (.inr (6, 0, 0))), some (.inl u), some (.inl v), some (.inl l), some (.inl h)], [], (I, J, R)) _
    refine dn_run 1 (show tkDn tm_135 (18, [some (.inr (.inr (6, 0, 0))), some (.inl u), some (.inl v), some (.inl l), some (.inl h)], [.inl (-11)], (I, J, R)) _ from ?_)
    refine dn_ret0 rfl rfl rfl rfl ?_
    have hrf : rfF S u v l h 1 = -11 := by unfold rfF; rw [if_pos (fun q => by rw [if_pos q.1] at c1; exact absurd rfl c1)]
    rw [show opGift S u v l h = (-11, S) by unfold opGift; rw [hrf]; rw [if_neg (by decide)]] at hQ
    have := hQ (I 6 0) hP mOth.rfl' ⟨fun _ => ⟨rfl, rfl⟩, fun q => absurd (show ((-11) : Int32) < 0 by decide) q⟩
    rw [tk_so_id] at this
    exact this
  · show tkDn tm_135 (8, [some (.inr (.inr (6, 0, 0))), some (.inl u), some (.inl v), some (.inl l), some (.inl h)], [], (I, J, R)) _
    have k1 : hasM S u := by by_cases q : hasM S u; exact q; rw [if_neg q] at c1; exact absurd c1 (by decide)
    refine dn_run 2 (show tkDn tm_135 (10, [some (.inr (.inr (6, 0, 0))), some (.inl u), some (.inl v), some (.inl l), some (.inl h)], [.inl v, .inr (.inr (6, 0, 0))], (I, J, R)) _ from ?_)
    refine dn_call rfl rfl rfl rfl rfl (sm_noMoment hP w ?_)
    show tkDn tm_135 (13, [some (.inr (.inr (6, 0, 0))), some (.inl u), some (.inl v), some (.inl l), some (.inl h)], [.inl (if hasM S v then 0 else 1)], (I, J, R)) _
    refine dn_if rfl rfl rfl (fun (c2 : (if hasM S v then 0 else 1) = 0) => ?_) (fun (c2 : ¬ (if hasM S v then 0 else 1) = 0) => ?_)
    · show tkDn tm_135 (19, [some (.inr (.inr (6, 0, 0))), some (.inl u), some (.inl v), some (.inl l), some (.inl h)], [], (I, J, R)) _
      have k2 : hasM S v := by by_cases q : hasM S v; exact q; rw [if_neg q] at c2; exact absurd c2 (by decide)
      refine dn_run 2 (show tkDn tm_135 (21, [some (.inr (.inr (6, 0, 0))), some (.inl u), some (.inl v), some (.inl l), some (.inl h)], [.inl v, .inl u], (I, J, R)) _ from ?_)
      refine dn_if rfl rfl rfl (fun (c3 : ¬ u = v) => ?_) (fun (c3 : u = v) => ?_)
      · show tkDn tm_135 (27, [some (.inr (.inr (6, 0, 0))), some (.inl u), some (.inl v), some (.inl l), some (.inl h)], [], (I, J, R)) _
        refine dn_run 2 (show tkDn tm_135 (30, [some (.inr (.inr (6, 0, 0))), some (.inl u), some (.inl v), some (.inl l), some (.inl h)], [.inl h, .inl l], (I, J, R)) _ from ?_)
        refine dn_call rfl rfl rfl rfl rfl (sm_areBounds ?_)
        show tkDn tm_135 (33, [some (.inr (.inr (6, 0, 0))), some (.inl u), some (.inl v), some (.inl l), some (.inl h)], [.inl (if fitB l h (-100000) then 1 else 0)], (I, J, R)) _
        refine dn_if rfl rfl rfl (fun (c4 : (if fitB l h (-100000) then 1 else 0) = 0) => ?_) (fun (c4 : ¬ (if fitB l h (-100000) then 1 else 0) = 0) => ?_)
        · show tkDn tm_135 (41, [some (.inr (.inr (6, 0, 0))), some (.inl u), some (.inl v), some (.inl l), some (.inl h)], [], (I, J, R)) _
          refine dn_run 1 (show tkDn tm_135 (43, [some (.inr (.inr (6, 0, 0))), some (.inl u), some (.inl v), some (.inl l), some (.inl h)], [.inl (-12)], (I, J, R)) _ from ?_)
          refine dn_ret0 rfl rfl rfl rfl ?_
          have hrf : rfF S u v l h 1 = -12 := by unfold rfF; rw [if_neg (fun q => q ⟨k1, k2⟩), if_neg c3, if_neg (fun q => by rw [if_pos ⟨Int32.le_trans (by decide) q.1, q.2⟩] at c4; exact absurd c4 (by decide))]
          rw [show opGift S u v l h = (-12, S) by unfold opGift; rw [hrf]; rw [if_neg (by decide)]] at hQ
          have := hQ (I 6 0) hP mOth.rfl' ⟨fun _ => ⟨rfl, rfl⟩, fun q => absurd (show ((-12) : Int32) < 0 by decide) q⟩
          rw [tk_so_id] at this
          exact this
        · show tkDn tm_135 (36, [some (.inr (.inr (6, 0, 0))), some (.inl u), some (.inl v), some (.inl l), some (.inl h)], [], (I, J, R)) _
          have k4 : fitB l h (-100000) := by by_cases q : fitB l h (-100000); exact q; exact absurd (if_neg q) c4
          refine dn_run 2 (show tkDn tm_135 (38, [some (.inr (.inr (6, 0, 0))), some (.inl u), some (.inl v), some (.inl l), some (.inl h)], [.inl 1, .inl l], (I, J, R)) _ from ?_)
          refine dn_if rfl rfl rfl (fun (c5 : 1 ≤ l) => ?_) (fun (c5 : ¬ 1 ≤ l) => ?_)
          · show tkDn tm_135 (44, [some (.inr (.inr (6, 0, 0))), some (.inl u), some (.inl v), some (.inl l), some (.inl h)], [], (I, J, R)) _
            have hrf : rfF S u v l h 1 = 0 := by unfold rfF; rw [if_neg (fun q => q ⟨k1, k2⟩), if_neg c3, if_pos ⟨c5, k4.2⟩]
            obtain ⟨u, hu, rfl, hu2⟩ := hasM_nat hM16 k1
            obtain ⟨v, hv, rfl, hv2⟩ := hasM_nat hM16 k2
            show tkDn tm_135 (44, [some (.inr (.inr (6, 0, 0))), some (.inl (nI u)), some (.inl (nI v)), some (.inl l), some (.inl h)], [], (I, J, R)) _
            refine dn_run 2 (show tkDn tm_135 (46, [some (.inr (.inr (6, 0, 0))), some (.inl (nI u)), some (.inl (nI v)), some (.inl l), some (.inl h)], [.inl (nI v), .inr (.inr (6, 0, 0))], (I, J, R)) _ from ?_)
            refine dn_call rfl rfl rfl rfl rfl (sm_giftTo hP w (by omega) ?_)
            show tkDn tm_135 (49, [some (.inr (.inr (6, 0, 0))), some (.inl (nI u)), some (.inl (nI v)), some (.inl l), some (.inl h)], [.inl (if gt S v < sG S then nI (gt S v) else -1)], (I, J, R)) _
            refine dn_if rfl rfl rfl (fun (c6 : 0 ≤ (if gt S v < sG S then nI (gt S v) else -1)) => ?_) (fun (c6 : ¬ 0 ≤ (if gt S v < sG S then nI (gt S v) else -1)) => ?_)
            · show tkDn tm_135 (61, [some (.inr (.inr (6, 0, 0))), some (.inl (nI u)), some (.inl (nI v)), some (.inl l), some (.inl h)], [], (I, J, R)) _
              refine dn_run 1 (show tkDn tm_135 (63, [some (.inr (.inr (6, 0, 0))), some (.inl (nI u)), some (.inl (nI v)), some (.inl l), some (.inl h)], [.inl (-13)], (I, J, R)) _ from ?_)
              refine dn_ret0 rfl rfl rfl rfl ?_
              rw [show opGift S (nI u) (nI v) l h = (-13, S) by unfold opGift; rw [if_pos hrf, hu2, hv2, if_pos (Or.inl (by by_cases q : gt S v < sG S; exact q; rw [if_neg q] at c6; exact absurd c6 (by decide)))]] at hQ
              have := hQ (I 6 0) hP mOth.rfl' ⟨fun _ => ⟨rfl, rfl⟩, fun q => absurd (show ((-13) : Int32) < 0 by decide) q⟩
              rw [tk_so_id] at this
              exact this
            · show tkDn tm_135 (52, [some (.inr (.inr (6, 0, 0))), some (.inl (nI u)), some (.inl (nI v)), some (.inl l), some (.inl h)], [], (I, J, R)) _
              have hg : ¬ gt S v < sG S := fun q => by rw [if_pos q] at c6; exact c6 (nI_pos' (by omega))
              refine dn_run 3 (show tkDn tm_135 (55, [some (.inr (.inr (6, 0, 0))), some (.inl (nI u)), some (.inl (nI v)), some (.inl l), some (.inl h)], [.inl (nI v), .inl (nI u), .inr (.inr (6, 0, 0))], (I, J, R)) _ from ?_)
              refine dn_call rfl rfl rfl rfl rfl (sm_comesFrom hP w hu (by omega) ?_)
              show tkDn tm_135 (58, [some (.inr (.inr (6, 0, 0))), some (.inl (nI u)), some (.inl (nI v)), some (.inl l), some (.inl h)], [.inl (if cfF S v 7 u = true then 1 else 0)], (I, J, R)) _
              refine dn_if rfl rfl rfl (fun (c7 : (if cfF S v 7 u = true then 1 else 0) = 0) => ?_) (fun (c7 : ¬ (if cfF S v 7 u = true then 1 else 0) = 0) => ?_)
              · show tkDn tm_135 (64, [some (.inr (.inr (6, 0, 0))), some (.inl (nI u)), some (.inl (nI v)), some (.inl l), some (.inl h)], [], (I, J, R)) _
                have hc : ¬ cfF S v 7 u = true := fun q => by rw [if_pos q] at c7; exact absurd c7 (by decide)
                have hn : ¬ (gt S v < sG S ∨ cfF S v 7 u = true) := fun q => q.elim hg hc
                refine dn_run 3 (show tkDn tm_135 (70, [some (.inr (.inr (6, 0, 0))), some (.inl (nI u)), some (.inl (nI v)), some (.inl l), some (.inl h)], [.inl 60, .inl (I 6 0 0 1)], (I, J, R)) _ from ?_)
                refine dn_if rfl rfl rfl (fun (c8 : (I 6 0 0 1) = 60) => ?_) (fun (c8 : ¬ (I 6 0 0 1) = 60) => ?_)
                · show tkDn tm_135 (82, [some (.inr (.inr (6, 0, 0))), some (.inl (nI u)), some (.inl (nI v)), some (.inl l), some (.inl h)], [], (I, J, R)) _
                  refine dn_run 1 (show tkDn tm_135 (84, [some (.inr (.inr (6, 0, 0))), some (.inl (nI u)), some (.inl (nI v)), some (.inl l), some (.inl h)], [.inl (-14)], (I, J, R)) _ from ?_)
                  refine dn_ret0 rfl rfl rfl rfl ?_
                  rw [hL] at c8
                  rw [show opGift S (nI u) (nI v) l h = (-14, S) by unfold opGift; rw [if_pos hrf, hu2, hv2, if_neg hn, if_pos (Or.inl (by have : sL S = 60 := (nI_eq (b := 60) (by omega) (by decide)).mp c8; omega))]] at hQ
                  have := hQ (I 6 0) hP mOth.rfl' ⟨fun _ => ⟨rfl, rfl⟩, fun q => absurd (show ((-14) : Int32) < 0 by decide) q⟩
                  rw [tk_so_id] at this
                  exact this
                · show tkDn tm_135 (73, [some (.inr (.inr (6, 0, 0))), some (.inl (nI u)), some (.inl (nI v)), some (.inl l), some (.inl h)], [], (I, J, R)) _
                  rw [hL] at c8
                  have hlt : sL S < 60 := Nat.lt_of_le_of_ne hL60 (fun z => c8 (by rw [z]; rfl))
                  refine dn_run 3 (show tkDn tm_135 (79, [some (.inr (.inr (6, 0, 0))), some (.inl (nI u)), some (.inl (nI v)), some (.inl l), some (.inl h)], [.inl 6, .inl (I 6 0 0 2)], (I, J, R)) _ from ?_)
                  refine dn_if rfl rfl rfl (fun (c9 : ¬ (I 6 0 0 2) = 6) => ?_) (fun (c9 : (I 6 0 0 2) = 6) => ?_)
                  · show tkDn tm_135 (85, [some (.inr (.inr (6, 0, 0))), some (.inl (nI u)), some (.inl (nI v)), some (.inl l), some (.inl h)], [], (I, J, R)) _
                    rw [hG] at c9
                    have hgt : sG S < 6 := Nat.lt_of_le_of_ne hG6 (fun z => c9 (by rw [z]; rfl))
                    rw [show opGift S (nI u) (nI v) l h = (nI (sL S), app (addG S) u v l h (nI (sG S))) by unfold opGift; rw [if_pos hrf, hu2, hv2, if_neg hn, if_neg (by omega)]] at hQ
                    refine dn_run 22 (show (vp_in (I 6 0 0 2) 6) ∧ tkDn tm_135 (120, [some (.inr (.inr (6, 0, 0))), some (.inl (nI u)), some (.inl (nI v)), some (.inl l), some (.inl h)], [.inl (((I 6 0 0 2) + 1) - 1), .inl h, .inl l, .inl (nI v), .inl (nI u), .inr (.inr (6, 0, 0))], (tk_so (tk_so I 6 0 (tk_u2 (I 6 0) 9 ((I 6 0 0 2).toNatClampNeg) (I 6 0 0 1))) 6 0 (tk_u2 (tk_u2 (I 6 0) 9 ((I 6 0 0 2).toNatClampNeg) (I 6 0 0 1)) 0 2 ((I 6 0 0 2) + 1)), J, R)) _ from ⟨by rw [hG]; exact vp_in_nI hgt (by omega), ?_⟩)
                    rw [tk_so_so]
                    have hP2 : NetP (tk_so I 6 0 (tk_u2 (tk_u2 (I 6 0) 9 ((I 6 0 0 2).toNatClampNeg) (I 6 0 0 1)) 0 2 ((I 6 0 0 2) + 1)) 6 0) (addG S) := by rw [tk_so_same]; exact NetP_addG hP (by rw [hG, nI_clamp (by omega)]) hL (by rw [hG]; rw [nI_1])
                    rw [show I 6 0 0 2 + 1 - 1 = nI (sG S) by rw [hG]; rw [nI_1, nI_sub1]]
                    refine dn_call rfl rfl rfl rfl rfl (sm_added (S := addG S) hP2 hlt (fun X hX h1 h2 => ?_))
                    rw [tk_so_so]
                    rw [tk_so_same] at h1 h2
                    show tkDn tm_135 (123, [some (.inr (.inr (6, 0, 0))), some (.inl (nI u)), some (.inl (nI v)), some (.inl l), some (.inl h)], [.inl (nI (sL S))], (tk_so I 6 0 X, J, R)) _
                    refine dn_ret0 rfl rfl rfl rfl ?_
                    refine hQ X hX ?_ ⟨fun q => absurd q (nI_pos (by omega)), fun q => h2.2 (nI_pos (by show sL S < _; omega))⟩
                    refine ⟨fun k a1 a2 a3 => ?_, fun s hs => ?_⟩
                    · rw [h1.1 k a1 a2 a3, tk_u2_0 (by omega), tk_u2_0 (by omega)]
                    · rw [h1.2 s hs, tk_u2_ne (by omega), tk_u2_ne (by omega)]
                  · show tkDn tm_135 (82, [some (.inr (.inr (6, 0, 0))), some (.inl (nI u)), some (.inl (nI v)), some (.inl l), some (.inl h)], [], (I, J, R)) _
                    refine dn_run 1 (show tkDn tm_135 (84, [some (.inr (.inr (6, 0, 0))), some (.inl (nI u)), some (.inl (nI v)), some (.inl l), some (.inl h)], [.inl (-14)], (I, J, R)) _ from ?_)
                    refine dn_ret0 rfl rfl rfl rfl ?_
                    rw [hG] at c9
                    rw [show opGift S (nI u) (nI v) l h = (-14, S) by unfold opGift; rw [if_pos hrf, hu2, hv2, if_neg hn, if_pos (Or.inr (by have : sG S = 6 := (nI_eq (b := 6) (by omega) (by decide)).mp c9; omega))]] at hQ
                    have := hQ (I 6 0) hP mOth.rfl' ⟨fun _ => ⟨rfl, rfl⟩, fun q => absurd (show ((-14) : Int32) < 0 by decide) q⟩
                    rw [tk_so_id] at this
                    exact this
              · show tkDn tm_135 (61, [some (.inr (.inr (6, 0, 0))), some (.inl (nI u)), some (.inl (nI v)), some (.inl l), some (.inl h)], [], (I, J, R)) _
                refine dn_run 1 (show tkDn tm_135 (63, [some (.inr (.inr (6, 0, 0))), some (.inl (nI u)), some (.inl (nI v)), some (.inl l), some (.inl h)], [.inl (-13)], (I, J, R)) _ from ?_)
                refine dn_ret0 rfl rfl rfl rfl ?_
                rw [show opGift S (nI u) (nI v) l h = (-13, S) by unfold opGift; rw [if_pos hrf, hu2, hv2, if_pos (Or.inr (by by_cases q : cfF S v 7 u = true; exact q; exact absurd (if_neg q) c7))]] at hQ
                have := hQ (I 6 0) hP mOth.rfl' ⟨fun _ => ⟨rfl, rfl⟩, fun q => absurd (show ((-13) : Int32) < 0 by decide) q⟩
                rw [tk_so_id] at this
                exact this
          · show tkDn tm_135 (41, [some (.inr (.inr (6, 0, 0))), some (.inl u), some (.inl v), some (.inl l), some (.inl h)], [], (I, J, R)) _
            refine dn_run 1 (show tkDn tm_135 (43, [some (.inr (.inr (6, 0, 0))), some (.inl u), some (.inl v), some (.inl l), some (.inl h)], [.inl (-12)], (I, J, R)) _ from ?_)
            refine dn_ret0 rfl rfl rfl rfl ?_
            have hrf : rfF S u v l h 1 = -12 := by unfold rfF; rw [if_neg (fun q => q ⟨k1, k2⟩), if_neg c3, if_neg (fun q => c5 q.1)]
            rw [show opGift S u v l h = (-12, S) by unfold opGift; rw [hrf]; rw [if_neg (by decide)]] at hQ
            have := hQ (I 6 0) hP mOth.rfl' ⟨fun _ => ⟨rfl, rfl⟩, fun q => absurd (show ((-12) : Int32) < 0 by decide) q⟩
            rw [tk_so_id] at this
            exact this
      · show tkDn tm_135 (24, [some (.inr (.inr (6, 0, 0))), some (.inl u), some (.inl v), some (.inl l), some (.inl h)], [], (I, J, R)) _
        refine dn_run 1 (show tkDn tm_135 (26, [some (.inr (.inr (6, 0, 0))), some (.inl u), some (.inl v), some (.inl l), some (.inl h)], [.inl (-13)], (I, J, R)) _ from ?_)
        refine dn_ret0 rfl rfl rfl rfl ?_
        have hrf : rfF S u v l h 1 = -13 := by unfold rfF; rw [if_neg (fun q => q ⟨k1, k2⟩), if_pos c3]
        rw [show opGift S u v l h = (-13, S) by unfold opGift; rw [hrf]; rw [if_neg (by decide)]] at hQ
        have := hQ (I 6 0) hP mOth.rfl' ⟨fun _ => ⟨rfl, rfl⟩, fun q => absurd (show ((-13) : Int32) < 0 by decide) q⟩
        rw [tk_so_id] at this
        exact this
    · show tkDn tm_135 (16, [some (.inr (.inr (6, 0, 0))), some (.inl u), some (.inl v), some (.inl l), some (.inl h)], [], (I, J, R)) _
      refine dn_run 1 (show tkDn tm_135 (18, [some (.inr (.inr (6, 0, 0))), some (.inl u), some (.inl v), some (.inl l), some (.inl h)], [.inl (-11)], (I, J, R)) _ from ?_)
      refine dn_ret0 rfl rfl rfl rfl ?_
      have hrf : rfF S u v l h 1 = -11 := by unfold rfF; rw [if_pos (fun q => by rw [if_pos q.2] at c2; exact absurd rfl c2)]
      rw [show opGift S u v l h = (-11, S) by unfold opGift; rw [hrf]; rw [if_neg (by decide)]] at hQ
      have := hQ (I 6 0) hP mOth.rfl' ⟨fun _ => ⟨rfl, rfl⟩, fun q => absurd (show ((-11) : Int32) < 0 by decide) q⟩
      rw [tk_so_id] at this
      exact this
theorem sm_undo {I : tkI} {J : tkJ} {R : Nat → Nat} {Q : tkQ} {S : tkS} (hP : NetP (I 6 0) S) (w : WF S) (hQ : ∀ X, NetP X (opUndo S).2 → mOth (I 6 0) X → mFl (opUndo S).1 (I 6 0) X → Q (some (.inl (opUndo S).1)) (tk_so I 6 0 X, J, R)) : tkDn tm_136 (0, [some (.inr (.inr (6, 0, 0)))], [], (I, J, R)) Q := by
  have hL60 := w.2.1
  have hG6 := w.2.2.1
  have hL := hP.l
  have hG := hP.g
  refine dn_run 2 (show tkDn tm_136 (4, [some (.inr (.inr (6, 0, 0)))], [.inl (I 6 0 0 1)], (I, J, R)) _ from ?_)
  refine dn_if rfl rfl rfl (fun (c1 : ¬ (I 6 0 0 1) = 0) => ?_) (fun (c1 : (I 6 0 0 1) = 0) => ?_)
  · show tkDn tm_136 (10, [some (.inr (.inr (6, 0, 0)))], [], (I, J, R)) _
    rw [hL] at c1
    have h0 : 0 < sL S := Nat.pos_of_ne_zero (fun q => c1 (by rw [q]; rfl))
    have e1 : I 6 0 0 1 - 1 = nI (sL S - 1) := by rw [hL]; obtain ⟨n, hn⟩ : ∃ n, sL S = n + 1 := ⟨sL S - 1, by omega⟩; rw [hn]; exact nI_sub1
    have e2 : I 6 0 8 (nI (sL S - 1)).toNatClampNeg = sgn S (sL S - 1) := hP.gn w (by omega)
    refine dn_run 6 (show tkDn tm_136 (20, [some (.inr (.inr (6, 0, 0)))], [], (tk_so I 6 0 (tk_u2 (I 6 0) 0 1 ((I 6 0 0 1) - 1)), J, R)) _ from ?_)
    rw [e1]
    show tkDn tm_136 (20, [some (.inr (.inr (6, 0, 0)))], [], (tk_so I 6 0 (tk_u2 (I 6 0) 0 1 (nI (sL S - 1))), J, R)) _
    refine dn_run 8 (show (vp_in (nI (sL S - 1)) 60) ∧ tkDn tm_136 (34, [some (.inr (.inr (6, 0, 0)))], [.inl (I 6 0 8 ((nI (sL S - 1)).toNatClampNeg)), .inl (I 6 0 0 2), .inr (.inr (6, 0, 0))], (tk_so I 6 0 (tk_u2 (I 6 0) 0 1 (nI (sL S - 1))), J, R)) _ from ⟨vp_in_nI (by omega) (by omega), ?_⟩)
    refine dn_if rfl rfl rfl (fun (c2 : (I 6 0 8 ((nI (sL S - 1)).toNatClampNeg)) < 0) => ?_) (fun (c2 : ¬ (I 6 0 8 ((nI (sL S - 1)).toNatClampNeg)) < 0) => ?_)
    · show tkDn tm_136 (41, [some (.inr (.inr (6, 0, 0)))], [.inl (I 6 0 0 2), .inr (.inr (6, 0, 0))], (tk_so I 6 0 (tk_u2 (I 6 0) 0 1 (nI (sL S - 1))), J, R)) _
      rw [e2] at c2
      have hs : sgn S (sL S - 1) = -9 := by rcases (w.2.2.2.1 (sL S - 1) (by omega)).2.2.2.2 with q | ⟨g, q, q2, -⟩; exact q; rw [q2] at c2; exact absurd c2 (nI_pos (by omega))
      refine dn_run 4 (show tkDn tm_136 (47, [some (.inr (.inr (6, 0, 0)))], [.inr (.inr (6, 0, 0))], (tk_so (tk_so I 6 0 (tk_u2 (I 6 0) 0 1 (nI (sL S - 1)))) 6 0 (tk_u2 (tk_u2 (I 6 0) 0 1 (nI (sL S - 1))) 0 2 ((I 6 0 0 2) - 0)), J, R)) _ from ?_)
      rw [tk_so_so]
      refine dn_call rfl rfl rfl rfl rfl ?_
      show tkDn tm_127 (0, [some (.inr (.inr (6, 0, 0)))], [], (tk_so I 6 0 (tk_u2 (tk_u2 (I 6 0) 0 1 (nI (sL S - 1))) 0 2 ((I 6 0 0 2) - 0)), J, R)) _
      refine dn_run 6 (show (0 = 0 ∨ 0 = 1) ∧ (0 = 0 ∨ 0 = 1) ∧ tkDn tm_127 (10, [some (.inr (.inr (6, 0, 0)))], [], (tk_so (tk_so (tk_so I 6 0 (tk_u2 (tk_u2 (I 6 0) 0 1 (nI (sL S - 1))) 0 2 ((I 6 0 0 2) - 0))) 6 0 (tk_u2 (tk_u2 (tk_u2 (I 6 0) 0 1 (nI (sL S - 1))) 0 2 ((I 6 0 0 2) - 0)) 0 10 0)) 6 0 (tk_u2 (tk_u2 (tk_u2 (tk_u2 (I 6 0) 0 1 (nI (sL S - 1))) 0 2 ((I 6 0 0 2) - 0)) 0 10 0) 0 11 0), J, R)) _ from ⟨Or.inl rfl, Or.inl rfl, ?_⟩)
      rw [tk_so_so, tk_so_so]
      refine dn_ret0 rfl rfl rfl rfl ?_
      show tkDn tm_136 (50, [some (.inr (.inr (6, 0, 0)))], [], (tk_so I 6 0 (tk_u2 (tk_u2 (tk_u2 (tk_u2 (I 6 0) 0 1 (nI (sL S - 1))) 0 2 ((I 6 0 0 2) - 0)) 0 10 0) 0 11 0), J, R)) _
      refine dn_run 2 (show tkDn tm_136 (54, [some (.inr (.inr (6, 0, 0)))], [.inl (nI (sL S - 1))], (tk_so I 6 0 (tk_u2 (tk_u2 (tk_u2 (tk_u2 (I 6 0) 0 1 (nI (sL S - 1))) 0 2 ((I 6 0 0 2) - 0)) 0 10 0) 0 11 0), J, R)) _ from ?_)
      refine dn_ret0 rfl rfl rfl rfl ?_
      rw [show opUndo S = (nI (sL S - 1), (sM S, sL S - 1, sG S, S.2.2.2)) by unfold opUndo; rw [if_neg (by omega), if_pos hs]] at hQ
      refine hQ _ (NetP_fl (NetP_undo hP (by omega) h0 rfl (by rw [hG]; exact Int32.sub_zero (a := nI (sG S))))) ?_ ⟨fun q => absurd q (nI_pos (by omega)), fun _ => ⟨by rw [tk_u2_0 (by decide), tk_u2_1], tk_u2_1⟩⟩
      refine mOth_u (mOth_u (mOth_u (mOth_u mOth.rfl' ?_) ?_) ?_) ?_ <;> omega
    · show tkDn tm_136 (37, [some (.inr (.inr (6, 0, 0)))], [.inl (I 6 0 0 2), .inr (.inr (6, 0, 0))], (tk_so I 6 0 (tk_u2 (I 6 0) 0 1 (nI (sL S - 1))), J, R)) _
      rw [e2] at c2
      have hs : ¬ sgn S (sL S - 1) = -9 := fun q => c2 (by rw [q]; decide)
      have hg0 : 0 < sG S := by rcases (w.2.2.2.1 (sL S - 1) (by omega)).2.2.2.2 with q | ⟨g, q, -⟩; exact absurd q hs; omega
      refine dn_run 5 (show tkDn tm_136 (47, [some (.inr (.inr (6, 0, 0)))], [.inr (.inr (6, 0, 0))], (tk_so (tk_so I 6 0 (tk_u2 (I 6 0) 0 1 (nI (sL S - 1)))) 6 0 (tk_u2 (tk_u2 (I 6 0) 0 1 (nI (sL S - 1))) 0 2 ((I 6 0 0 2) - 1)), J, R)) _ from ?_)
      rw [tk_so_so]
      refine dn_call rfl rfl rfl rfl rfl ?_
      show tkDn tm_127 (0, [some (.inr (.inr (6, 0, 0)))], [], (tk_so I 6 0 (tk_u2 (tk_u2 (I 6 0) 0 1 (nI (sL S - 1))) 0 2 ((I 6 0 0 2) - 1)), J, R)) _
      refine dn_run 6 (show (0 = 0 ∨ 0 = 1) ∧ (0 = 0 ∨ 0 = 1) ∧ tkDn tm_127 (10, [some (.inr (.inr (6, 0, 0)))], [], (tk_so (tk_so (tk_so I 6 0 (tk_u2 (tk_u2 (I 6 0) 0 1 (nI (sL S - 1))) 0 2 ((I 6 0 0 2) - 1))) 6 0 (tk_u2 (tk_u2 (tk_u2 (I 6 0) 0 1 (nI (sL S - 1))) 0 2 ((I 6 0 0 2) - 1)) 0 10 0)) 6 0 (tk_u2 (tk_u2 (tk_u2 (tk_u2 (I 6 0) 0 1 (nI (sL S - 1))) 0 2 ((I 6 0 0 2) - 1)) 0 10 0) 0 11 0), J, R)) _ from ⟨Or.inl rfl, Or.inl rfl, ?_⟩)
      rw [tk_so_so, tk_so_so]
      refine dn_ret0 rfl rfl rfl rfl ?_
      show tkDn tm_136 (50, [some (.inr (.inr (6, 0, 0)))], [], (tk_so I 6 0 (tk_u2 (tk_u2 (tk_u2 (tk_u2 (I 6 0) 0 1 (nI (sL S - 1))) 0 2 ((I 6 0 0 2) - 1)) 0 10 0) 0 11 0), J, R)) _
      refine dn_run 2 (show tkDn tm_136 (54, [some (.inr (.inr (6, 0, 0)))], [.inl (nI (sL S - 1))], (tk_so I 6 0 (tk_u2 (tk_u2 (tk_u2 (tk_u2 (I 6 0) 0 1 (nI (sL S - 1))) 0 2 ((I 6 0 0 2) - 1)) 0 10 0) 0 11 0), J, R)) _ from ?_)
      refine dn_ret0 rfl rfl rfl rfl ?_
      rw [show opUndo S = (nI (sL S - 1), (sM S, sL S - 1, sG S - 1, S.2.2.2)) by unfold opUndo; rw [if_neg (by omega), if_neg hs]] at hQ
      refine hQ _ (NetP_fl (NetP_undo hP (by omega) h0 rfl (by rw [hG]; obtain ⟨n, hn⟩ : ∃ n, sG S = n + 1 := ⟨sG S - 1, by omega⟩; rw [hn]; exact nI_sub1))) ?_ ⟨fun q => absurd q (nI_pos (by omega)), fun _ => ⟨by rw [tk_u2_0 (by decide), tk_u2_1], tk_u2_1⟩⟩
      refine mOth_u (mOth_u (mOth_u (mOth_u mOth.rfl' ?_) ?_) ?_) ?_ <;> omega
  · show tkDn tm_136 (7, [some (.inr (.inr (6, 0, 0)))], [], (I, J, R)) _
    refine dn_run 1 (show tkDn tm_136 (9, [some (.inr (.inr (6, 0, 0)))], [.inl (-13)], (I, J, R)) _ from ?_)
    refine dn_ret0 rfl rfl rfl rfl ?_
    rw [hL] at c1
    have h0 : sL S = 0 := (nI_eq (b := 0) (by omega) (by decide)).mp c1
    rw [show opUndo S = (-13, S) by unfold opUndo; rw [if_pos h0]] at hQ
    have := hQ (I 6 0) hP mOth.rfl' ⟨fun _ => ⟨rfl, rfl⟩, fun q => absurd (show ((-13) : Int32) < 0 by decide) q⟩
    rw [tk_so_id] at this
    exact this
theorem sm_tighten {I : tkI} {J : tkJ} {R : Nat → Nat} {Q : tkQ} {S : tkS} (hP : NetP (I 6 0) S) (w : WF S) {k l h : Int32} (hQ : ∀ X, NetP X (opTight S k l h).2 → mOth (I 6 0) X → mFl (opTight S k l h).1 (I 6 0) X → Q (some (.inl (opTight S k l h).1)) (tk_so I 6 0 X, J, R)) : tkDn tm_137 (0, [some (.inr (.inr (6, 0, 0))), some (.inl k), some (.inl l), some (.inl h)], [], (I, J, R)) Q := by
  have hL60 := w.2.1
  have hG6 := w.2.2.1
  have hL := hP.l
  have hiff : (0 ≤ k ∧ k ≤ I 6 0 0 1 - 1) ↔ (0 ≤ k ∧ k < nI (sL S)) := by rw [hL, le_pred (by omega)]
  refine dn_run 6 (show tkDn tm_137 (8, [some (.inr (.inr (6, 0, 0))), some (.inl k), some (.inl l), some (.inl h)], [.inl ((I 6 0 0 1) - 1), .inl 0, .inl k], (I, J, R)) _ from ?_)
  refine dn_call rfl rfl rfl rfl rfl (sm_in ?_)
  show tkDn tm_137 (11, [some (.inr (.inr (6, 0, 0))), some (.inl k), some (.inl l), some (.inl h)], [.inl (if 0 ≤ k ∧ k ≤ I 6 0 0 1 - 1 then 1 else 0)], (I, J, R)) _
  refine dn_if rfl rfl rfl (fun (c1 : ¬ (if 0 ≤ k ∧ k ≤ I 6 0 0 1 - 1 then 1 else 0) = 0) => ?_) (fun (c1 : (if 0 ≤ k ∧ k ≤ I 6 0 0 1 - 1 then 1 else 0) = 0) => ?_)
  · show tkDn tm_137 (17, [some (.inr (.inr (6, 0, 0))), some (.inl k), some (.inl l), some (.inl h)], [], (I, J, R)) _
    have hk : 0 ≤ k ∧ k < nI (sL S) := by by_cases q : 0 ≤ k ∧ k ≤ I 6 0 0 1 - 1; exact hiff.mp q; exact absurd (if_neg q) c1
    clear c1 hiff
    obtain ⟨j, hj, rfl⟩ := hasL_nat hL60 hk
    have e2 := hP.gn w hj
    have hcl : (nI j).toNatClampNeg = j := nI_clamp (by omega)
    have hsg := (w.2.2.2.1 j hj).2.2.2.2
    refine dn_run 2 (show tkDn tm_137 (19, [some (.inr (.inr (6, 0, 0))), some (.inl (nI j)), some (.inl l), some (.inl h)], [.inl h, .inl l], (I, J, R)) _ from ?_)
    refine dn_call rfl rfl rfl rfl rfl (sm_areBounds ?_)
    show tkDn tm_137 (22, [some (.inr (.inr (6, 0, 0))), some (.inl (nI j)), some (.inl l), some (.inl h)], [.inl (if fitB l h (-100000) then 1 else 0)], (I, J, R)) _
    refine dn_if rfl rfl rfl (fun (c2 : (if fitB l h (-100000) then 1 else 0) = 0) => ?_) (fun (c2 : ¬ (if fitB l h (-100000) then 1 else 0) = 0) => ?_)
    · show tkDn tm_137 (39, [some (.inr (.inr (6, 0, 0))), some (.inl (nI j)), some (.inl l), some (.inl h)], [], (I, J, R)) _
      refine dn_run 1 (show tkDn tm_137 (41, [some (.inr (.inr (6, 0, 0))), some (.inl (nI j)), some (.inl l), some (.inl h)], [.inl (-12)], (I, J, R)) _ from ?_)
      refine dn_ret0 rfl rfl rfl rfl ?_
      have k4 : ¬ fitB l h (-100000) := fun q => by rw [if_pos q] at c2; exact absurd c2 (by decide)
      have hf : ¬ fitB l h (if sgn S j = -9 then -100000 else 1) := by
        split
        · exact k4
        · exact fun q => k4 ⟨Int32.le_trans (by decide) q.1, q.2⟩
      rw [show opTight S (nI j) l h = (-12, S) by unfold opTight; rw [if_pos hk, hcl, if_neg hf]] at hQ
      have := hQ (I 6 0) hP mOth.rfl' ⟨fun _ => ⟨rfl, rfl⟩, fun q => absurd (show ((-12) : Int32) < 0 by decide) q⟩
      rw [tk_so_id] at this
      exact this
    · show tkDn tm_137 (25, [some (.inr (.inr (6, 0, 0))), some (.inl (nI j)), some (.inl l), some (.inl h)], [], (I, J, R)) _
      have k4 : fitB l h (-100000) := by by_cases q : fitB l h (-100000); exact q; exact absurd (if_neg q) c2
      refine dn_run 4 (show (vp_in (nI j) 60) ∧ tkDn tm_137 (31, [some (.inr (.inr (6, 0, 0))), some (.inl (nI j)), some (.inl l), some (.inl h)], [.inl (I 6 0 8 ((nI j).toNatClampNeg))], (I, J, R)) _ from ⟨vp_in_nI (by omega) (by omega), ?_⟩)
      refine dn_if rfl rfl rfl (fun (c3 : (I 6 0 8 ((nI j).toNatClampNeg)) < 0) => ?_) (fun (c3 : ¬ (I 6 0 8 ((nI j).toNatClampNeg)) < 0) => ?_)
      · show tkDn tm_137 (42, [some (.inr (.inr (6, 0, 0))), some (.inl (nI j)), some (.inl l), some (.inl h)], [], (I, J, R)) _
        rw [e2] at c3
        have hs : sgn S j = -9 := by rcases hsg with q | ⟨g, q, q2, -⟩; exact q; rw [q2] at c3; exact absurd c3 (nI_pos (by omega))
        have hf := k4
        refine dn_run 11 (show (vp_in (nI j) 60) ∧ (vp_in (nI j) 60) ∧ tkDn tm_137 (57, [some (.inr (.inr (6, 0, 0))), some (.inl (nI j)), some (.inl l), some (.inl h)], [.inr (.inr (6, 0, 0))], (tk_so (tk_so I 6 0 (tk_u2 (I 6 0) 6 ((nI j).toNatClampNeg) l)) 6 0 (tk_u2 (tk_u2 (I 6 0) 6 ((nI j).toNatClampNeg) l) 7 ((nI j).toNatClampNeg) h), J, R)) _ from ⟨vp_in_nI (by omega) (by omega), vp_in_nI (by omega) (by omega), ?_⟩)
        rw [tk_so_so]
        refine dn_call rfl rfl rfl rfl rfl ?_
        show tkDn tm_127 (0, [some (.inr (.inr (6, 0, 0)))], [], (tk_so I 6 0 (tk_u2 (tk_u2 (I 6 0) 6 ((nI j).toNatClampNeg) l) 7 ((nI j).toNatClampNeg) h), J, R)) _
        refine dn_run 6 (show (0 = 0 ∨ 0 = 1) ∧ (0 = 0 ∨ 0 = 1) ∧ tkDn tm_127 (10, [some (.inr (.inr (6, 0, 0)))], [], (tk_so (tk_so (tk_so I 6 0 (tk_u2 (tk_u2 (I 6 0) 6 ((nI j).toNatClampNeg) l) 7 ((nI j).toNatClampNeg) h)) 6 0 (tk_u2 (tk_u2 (tk_u2 (I 6 0) 6 ((nI j).toNatClampNeg) l) 7 ((nI j).toNatClampNeg) h) 0 10 0)) 6 0 (tk_u2 (tk_u2 (tk_u2 (tk_u2 (I 6 0) 6 ((nI j).toNatClampNeg) l) 7 ((nI j).toNatClampNeg) h) 0 10 0) 0 11 0), J, R)) _ from ⟨Or.inl rfl, Or.inl rfl, ?_⟩)
        rw [tk_so_so, tk_so_so]
        refine dn_ret0 rfl rfl rfl rfl ?_
        show tkDn tm_137 (60, [some (.inr (.inr (6, 0, 0))), some (.inl (nI j)), some (.inl l), some (.inl h)], [], (tk_so I 6 0 (tk_u2 (tk_u2 (tk_u2 (tk_u2 (I 6 0) 6 ((nI j).toNatClampNeg) l) 7 ((nI j).toNatClampNeg) h) 0 10 0) 0 11 0), J, R)) _
        refine dn_run 1 (show tkDn tm_137 (61, [some (.inr (.inr (6, 0, 0))), some (.inl (nI j)), some (.inl l), some (.inl h)], [.inl 1], (tk_so I 6 0 (tk_u2 (tk_u2 (tk_u2 (tk_u2 (I 6 0) 6 ((nI j).toNatClampNeg) l) 7 ((nI j).toNatClampNeg) h) 0 10 0) 0 11 0), J, R)) _ from ?_)
        refine dn_ret0 rfl rfl rfl rfl ?_
        rw [show opTight S (nI j) l h = (1, (sM S, sL S, sG S, sf S, se S, tk_u1 (slo S) j l, tk_u1 (shi S) j h, sgn S, sgl S)) by unfold opTight; rw [if_pos hk, hcl, if_pos hs, if_pos hf]] at hQ
        rw [hcl]
        refine hQ _ (NetP_fl (NetP_tight hP)) ?_ ⟨fun q => absurd q (show ¬ (1 : Int32) < 0 by decide), fun _ => ⟨by rw [tk_u2_0 (by decide), tk_u2_1], tk_u2_1⟩⟩
        refine mOth_u (mOth_u (mOth_u (mOth_u mOth.rfl' ?_) ?_) ?_) ?_ <;> omega
      · show tkDn tm_137 (34, [some (.inr (.inr (6, 0, 0))), some (.inl (nI j)), some (.inl l), some (.inl h)], [], (I, J, R)) _
        rw [e2] at c3
        have hs : ¬ sgn S j = -9 := fun q => c3 (by rw [q]; decide)
        refine dn_run 2 (show tkDn tm_137 (36, [some (.inr (.inr (6, 0, 0))), some (.inl (nI j)), some (.inl l), some (.inl h)], [.inl 1, .inl l], (I, J, R)) _ from ?_)
        refine dn_if rfl rfl rfl (fun (c5 : 1 ≤ l) => ?_) (fun (c5 : ¬ 1 ≤ l) => ?_)
        · show tkDn tm_137 (42, [some (.inr (.inr (6, 0, 0))), some (.inl (nI j)), some (.inl l), some (.inl h)], [], (I, J, R)) _
          have hf : fitB l h 1 := ⟨c5, k4.2⟩
          refine dn_run 11 (show (vp_in (nI j) 60) ∧ (vp_in (nI j) 60) ∧ tkDn tm_137 (57, [some (.inr (.inr (6, 0, 0))), some (.inl (nI j)), some (.inl l), some (.inl h)], [.inr (.inr (6, 0, 0))], (tk_so (tk_so I 6 0 (tk_u2 (I 6 0) 6 ((nI j).toNatClampNeg) l)) 6 0 (tk_u2 (tk_u2 (I 6 0) 6 ((nI j).toNatClampNeg) l) 7 ((nI j).toNatClampNeg) h), J, R)) _ from ⟨vp_in_nI (by omega) (by omega), vp_in_nI (by omega) (by omega), ?_⟩)
          rw [tk_so_so]
          refine dn_call rfl rfl rfl rfl rfl ?_
          show tkDn tm_127 (0, [some (.inr (.inr (6, 0, 0)))], [], (tk_so I 6 0 (tk_u2 (tk_u2 (I 6 0) 6 ((nI j).toNatClampNeg) l) 7 ((nI j).toNatClampNeg) h), J, R)) _
          refine dn_run 6 (show (0 = 0 ∨ 0 = 1) ∧ (0 = 0 ∨ 0 = 1) ∧ tkDn tm_127 (10, [some (.inr (.inr (6, 0, 0)))], [], (tk_so (tk_so (tk_so I 6 0 (tk_u2 (tk_u2 (I 6 0) 6 ((nI j).toNatClampNeg) l) 7 ((nI j).toNatClampNeg) h)) 6 0 (tk_u2 (tk_u2 (tk_u2 (I 6 0) 6 ((nI j).toNatClampNeg) l) 7 ((nI j).toNatClampNeg) h) 0 10 0)) 6 0 (tk_u2 (tk_u2 (tk_u2 (tk_u2 (I 6 0) 6 ((nI j).toNatClampNeg) l) 7 ((nI j).toNatClampNeg) h) 0 10 0) 0 11 0), J, R)) _ from ⟨Or.inl rfl, Or.inl rfl, ?_⟩)
          rw [tk_so_so, tk_so_so]
          refine dn_ret0 rfl rfl rfl rfl ?_
          show tkDn tm_137 (60, [some (.inr (.inr (6, 0, 0))), some (.inl (nI j)), some (.inl l), some (.inl h)], [], (tk_so I 6 0 (tk_u2 (tk_u2 (tk_u2 (tk_u2 (I 6 0) 6 ((nI j).toNatClampNeg) l) 7 ((nI j).toNatClampNeg) h) 0 10 0) 0 11 0), J, R)) _
          refine dn_run 1 (show tkDn tm_137 (61, [some (.inr (.inr (6, 0, 0))), some (.inl (nI j)), some (.inl l), some (.inl h)], [.inl 1], (tk_so I 6 0 (tk_u2 (tk_u2 (tk_u2 (tk_u2 (I 6 0) 6 ((nI j).toNatClampNeg) l) 7 ((nI j).toNatClampNeg) h) 0 10 0) 0 11 0), J, R)) _ from ?_)
          refine dn_ret0 rfl rfl rfl rfl ?_
          rw [show opTight S (nI j) l h = (1, (sM S, sL S, sG S, sf S, se S, tk_u1 (slo S) j l, tk_u1 (shi S) j h, sgn S, sgl S)) by unfold opTight; rw [if_pos hk, hcl, if_neg hs, if_pos hf]] at hQ
          rw [hcl]
          refine hQ _ (NetP_fl (NetP_tight hP)) ?_ ⟨fun q => absurd q (show ¬ (1 : Int32) < 0 by decide), fun _ => ⟨by rw [tk_u2_0 (by decide), tk_u2_1], tk_u2_1⟩⟩
          refine mOth_u (mOth_u (mOth_u (mOth_u mOth.rfl' ?_) ?_) ?_) ?_ <;> omega
        · show tkDn tm_137 (39, [some (.inr (.inr (6, 0, 0))), some (.inl (nI j)), some (.inl l), some (.inl h)], [], (I, J, R)) _
          refine dn_run 1 (show tkDn tm_137 (41, [some (.inr (.inr (6, 0, 0))), some (.inl (nI j)), some (.inl l), some (.inl h)], [.inl (-12)], (I, J, R)) _ from ?_)
          refine dn_ret0 rfl rfl rfl rfl ?_
          rw [show opTight S (nI j) l h = (-12, S) by unfold opTight; rw [if_pos hk, hcl, if_neg hs, if_neg (fun q => c5 q.1)]] at hQ
          have := hQ (I 6 0) hP mOth.rfl' ⟨fun _ => ⟨rfl, rfl⟩, fun q => absurd (show ((-12) : Int32) < 0 by decide) q⟩
          rw [tk_so_id] at this
          exact this
  · show tkDn tm_137 (14, [some (.inr (.inr (6, 0, 0))), some (.inl k), some (.inl l), some (.inl h)], [], (I, J, R)) _
    refine dn_run 1 (show tkDn tm_137 (16, [some (.inr (.inr (6, 0, 0))), some (.inl k), some (.inl l), some (.inl h)], [.inl (-11)], (I, J, R)) _ from ?_)
    refine dn_ret0 rfl rfl rfl rfl ?_
    rw [show opTight S k l h = (-11, S) by unfold opTight; rw [if_neg (fun q => by rw [if_pos (hiff.mpr q)] at c1; exact absurd c1 (by decide))]] at hQ
    have := hQ (I 6 0) hP mOth.rfl' ⟨fun _ => ⟨rfl, rfl⟩, fun q => absurd (show ((-11) : Int32) < 0 by decide) q⟩
    rw [tk_so_id] at this
    exact this
theorem sm_link {I : tkI} {J : tkJ} {R : Nat → Nat} {Q : tkQ} {S : tkS} (hP : NetP (I 6 0) S) (w : WF S) {k z : Int32} (hQ : Q (some (.inl (lnkF S k z))) (I, J, R)) : tkDn tm_138 (0, [some (.inr (.inr (6, 0, 0))), some (.inl k), some (.inl z)], [], (I, J, R)) Q := by
  have hL60 := w.2.1
  have hL := hP.l
  have hiff : (0 ≤ k ∧ k ≤ I 6 0 0 1 - 1) ↔ (0 ≤ k ∧ k < nI (sL S)) := by rw [hL, le_pred (by omega)]
  refine dn_run 6 (show tkDn tm_138 (8, [some (.inr (.inr (6, 0, 0))), some (.inl k), some (.inl z)], [.inl ((I 6 0 0 1) - 1), .inl 0, .inl k], (I, J, R)) _ from ?_)
  refine dn_call rfl rfl rfl rfl rfl (sm_in ?_)
  show tkDn tm_138 (11, [some (.inr (.inr (6, 0, 0))), some (.inl k), some (.inl z)], [.inl (if 0 ≤ k ∧ k ≤ I 6 0 0 1 - 1 then 1 else 0)], (I, J, R)) _
  refine dn_if rfl rfl rfl (fun (c1 : ¬ (if 0 ≤ k ∧ k ≤ I 6 0 0 1 - 1 then 1 else 0) = 0) => ?_) (fun (c1 : (if 0 ≤ k ∧ k ≤ I 6 0 0 1 - 1 then 1 else 0) = 0) => ?_)
  · show tkDn tm_138 (17, [some (.inr (.inr (6, 0, 0))), some (.inl k), some (.inl z)], [], (I, J, R)) _
    have hk : 0 ≤ k ∧ k < nI (sL S) := by by_cases q : 0 ≤ k ∧ k ≤ I 6 0 0 1 - 1; exact hiff.mp q; exact absurd (if_neg q) c1
    clear c1 hiff
    obtain ⟨j, hj, rfl⟩ := hasL_nat hL60 hk
    have hcl : (nI j).toNatClampNeg = j := nI_clamp (by omega)
    unfold lnkF at hQ
    rw [if_pos hk, hcl] at hQ
    refine dn_run 1 (show tkDn tm_138 (18, [some (.inr (.inr (6, 0, 0))), some (.inl (nI j)), some (.inl z)], [.inl z], (I, J, R)) _ from ?_)
    by_cases k0 : z = 0
    · subst k0
      refine dn_sw (t := 52) rfl (by decide) (by decide) ?_
      show tkDn tm_138 (52, [some (.inr (.inr (6, 0, 0))), some (.inl (nI j)), some (.inl 0)], [], (I, J, R)) _
      have e := hP.fr w hj
      refine dn_run 4 (show (vp_in (nI j) 60) ∧ tkDn tm_138 (58, [some (.inr (.inr (6, 0, 0))), some (.inl (nI j)), some (.inl 0)], [.inl (I 6 0 4 ((nI j).toNatClampNeg))], (I, J, R)) _ from ⟨vp_in_nI (by omega) (by omega), ?_⟩)
      rw [e]
      refine dn_ret0 rfl rfl rfl rfl ?_
      rw [if_pos rfl] at hQ
      exact hQ
    by_cases k1 : z = 1
    · subst k1
      refine dn_sw (t := 59) rfl (by decide) (by decide) ?_
      show tkDn tm_138 (59, [some (.inr (.inr (6, 0, 0))), some (.inl (nI j)), some (.inl 1)], [], (I, J, R)) _
      have e := hP.en w hj
      refine dn_run 4 (show (vp_in (nI j) 60) ∧ tkDn tm_138 (65, [some (.inr (.inr (6, 0, 0))), some (.inl (nI j)), some (.inl 1)], [.inl (I 6 0 5 ((nI j).toNatClampNeg))], (I, J, R)) _ from ⟨vp_in_nI (by omega) (by omega), ?_⟩)
      rw [e]
      refine dn_ret0 rfl rfl rfl rfl ?_
      rw [if_neg (by decide)] at hQ
      rw [if_pos rfl] at hQ
      exact hQ
    by_cases k2 : z = 2
    · subst k2
      refine dn_sw (t := 66) rfl (by decide) (by decide) ?_
      show tkDn tm_138 (66, [some (.inr (.inr (6, 0, 0))), some (.inl (nI j)), some (.inl 2)], [], (I, J, R)) _
      have e := hP.lo w hj
      refine dn_run 4 (show (vp_in (nI j) 60) ∧ tkDn tm_138 (72, [some (.inr (.inr (6, 0, 0))), some (.inl (nI j)), some (.inl 2)], [.inl (I 6 0 6 ((nI j).toNatClampNeg))], (I, J, R)) _ from ⟨vp_in_nI (by omega) (by omega), ?_⟩)
      rw [e]
      refine dn_ret0 rfl rfl rfl rfl ?_
      rw [if_neg (by decide)] at hQ
      rw [if_neg (by decide)] at hQ
      rw [if_pos rfl] at hQ
      exact hQ
    by_cases k3 : z = 3
    · subst k3
      refine dn_sw (t := 73) rfl (by decide) (by decide) ?_
      show tkDn tm_138 (73, [some (.inr (.inr (6, 0, 0))), some (.inl (nI j)), some (.inl 3)], [], (I, J, R)) _
      have e := hP.hi w hj
      refine dn_run 4 (show (vp_in (nI j) 60) ∧ tkDn tm_138 (79, [some (.inr (.inr (6, 0, 0))), some (.inl (nI j)), some (.inl 3)], [.inl (I 6 0 7 ((nI j).toNatClampNeg))], (I, J, R)) _ from ⟨vp_in_nI (by omega) (by omega), ?_⟩)
      rw [e]
      refine dn_ret0 rfl rfl rfl rfl ?_
      rw [if_neg (by decide)] at hQ
      rw [if_neg (by decide)] at hQ
      rw [if_neg (by decide)] at hQ
      rw [if_pos rfl] at hQ
      exact hQ
    by_cases k4 : z = 4
    · subst k4
      refine dn_sw (t := 80) rfl (by decide) (by decide) ?_
      show tkDn tm_138 (80, [some (.inr (.inr (6, 0, 0))), some (.inl (nI j)), some (.inl 4)], [], (I, J, R)) _
      have e := hP.gn w hj
      refine dn_run 4 (show (vp_in (nI j) 60) ∧ tkDn tm_138 (86, [some (.inr (.inr (6, 0, 0))), some (.inl (nI j)), some (.inl 4)], [.inl (I 6 0 8 ((nI j).toNatClampNeg))], (I, J, R)) _ from ⟨vp_in_nI (by omega) (by omega), ?_⟩)
      rw [e]
      refine dn_ret0 rfl rfl rfl rfl ?_
      rw [if_neg (by decide)] at hQ
      rw [if_neg (by decide)] at hQ
      rw [if_neg (by decide)] at hQ
      rw [if_neg (by decide)] at hQ
      rw [if_pos rfl] at hQ
      exact hQ
    refine dn_sw (t := 87) rfl (by decide) (by rw [sw_out (by have := lv_neT k0 (show (0 : Int32).toInt = 0 by decide); have := lv_neT k1 (show (1 : Int32).toInt = 1 by decide); have := lv_neT k2 (show (2 : Int32).toInt = 2 by decide); have := lv_neT k3 (show (3 : Int32).toInt = 3 by decide); have := lv_neT k4 (show (4 : Int32).toInt = 4 by decide); omega)]; rfl) ?_
    show tkDn tm_138 (87, [some (.inr (.inr (6, 0, 0))), some (.inl (nI j)), some (.inl z)], [], (I, J, R)) _
    refine dn_run 1 (show tkDn tm_138 (89, [some (.inr (.inr (6, 0, 0))), some (.inl (nI j)), some (.inl z)], [.inl (-12)], (I, J, R)) _ from ?_)
    refine dn_ret0 rfl rfl rfl rfl ?_
    rw [if_neg k0, if_neg k1, if_neg k2, if_neg k3, if_neg k4] at hQ
    exact hQ
  · show tkDn tm_138 (14, [some (.inr (.inr (6, 0, 0))), some (.inl k), some (.inl z)], [], (I, J, R)) _
    refine dn_run 1 (show tkDn tm_138 (16, [some (.inr (.inr (6, 0, 0))), some (.inl k), some (.inl z)], [.inl (-11)], (I, J, R)) _ from ?_)
    refine dn_ret0 rfl rfl rfl rfl ?_
    unfold lnkF at hQ
    rw [if_neg (fun q => by rw [if_pos (hiff.mpr q)] at c1; exact absurd c1 (by decide))] at hQ
    exact hQ
