/-! the reference: its net -/
theorem sm_in {I : tkI} {J : tkJ} {R : Nat → Nat} {Q : tkQ} {v l h : Int32} (hQ : Q (some (.inl (if l ≤ v ∧ v ≤ h then 1 else 0))) (I, J, R)) : tkDn tm_126 (0, [some (.inl v), some (.inl l), some (.inl h)], [], (I, J, R)) Q := by
  refine dn_run 2 (show tkDn tm_126 (2, [some (.inl v), some (.inl l), some (.inl h)], [.inl l, .inl v], (I, J, R)) _ from ?_)
  refine dn_if rfl rfl rfl (fun (c1 : v < l) => ?_) (fun (c1 : ¬ v < l) => ?_)
  · show tkDn tm_126 (14, [some (.inl v), some (.inl l), some (.inl h)], [], (I, J, R)) _
    refine dn_run 1 (show tkDn tm_126 (15, [some (.inl v), some (.inl l), some (.inl h)], [.inl 0], (I, J, R)) _ from ?_)
    refine dn_retb rfl rfl rfl rfl (by decide) ?_
    rw [if_neg (fun q => absurd q.1 (Int32.not_le.mpr c1))] at hQ
    exact hQ
  · show tkDn tm_126 (5, [some (.inl v), some (.inl l), some (.inl h)], [], (I, J, R)) _
    refine dn_run 2 (show tkDn tm_126 (7, [some (.inl v), some (.inl l), some (.inl h)], [.inl h, .inl v], (I, J, R)) _ from ?_)
    refine dn_if rfl rfl rfl (fun (c2 : h < v) => ?_) (fun (c2 : ¬ h < v) => ?_)
    · show tkDn tm_126 (14, [some (.inl v), some (.inl l), some (.inl h)], [], (I, J, R)) _
      refine dn_run 1 (show tkDn tm_126 (15, [some (.inl v), some (.inl l), some (.inl h)], [.inl 0], (I, J, R)) _ from ?_)
      refine dn_retb rfl rfl rfl rfl (by decide) ?_
      rw [if_neg (fun q => absurd q.2 (Int32.not_le.mpr c2))] at hQ
      exact hQ
    · show tkDn tm_126 (10, [some (.inl v), some (.inl l), some (.inl h)], [], (I, J, R)) _
      refine dn_run 2 (show tkDn tm_126 (15, [some (.inl v), some (.inl l), some (.inl h)], [.inl 1], (I, J, R)) _ from ?_)
      refine dn_retb rfl rfl rfl rfl (by decide) ?_
      rw [if_pos ⟨Int32.not_lt.mp c1, Int32.not_lt.mp c2⟩] at hQ
      exact hQ
theorem sm_noMoment {I : tkI} {J : tkJ} {R : Nat → Nat} {Q : tkQ} {S : tkS} (hP : NetP (I 6 0) S) (w : WF S) {v : Int32} (hQ : Q (some (.inl (if hasM S v then 0 else 1))) (I, J, R)) : tkDn tm_128 (0, [some (.inr (.inr (6, 0, 0))), some (.inl v)], [], (I, J, R)) Q := by
  have hM := hP.m
  have hM16 := w.1
  have hiff : (0 ≤ v ∧ v ≤ I 6 0 0 0 - 1) ↔ hasM S v := by rw [hM, le_pred (by omega)]
  refine dn_run 6 (show tkDn tm_128 (8, [some (.inr (.inr (6, 0, 0))), some (.inl v)], [.inl ((I 6 0 0 0) - 1), .inl 0, .inl v], (I, J, R)) _ from ?_)
  refine dn_call rfl rfl rfl rfl rfl (sm_in ?_)
  show tkDn tm_128 (11, [some (.inr (.inr (6, 0, 0))), some (.inl v)], [.inl (if 0 ≤ v ∧ v ≤ I 6 0 0 0 - 1 then 1 else 0)], (I, J, R)) _
  refine dn_if rfl rfl rfl (fun (c : ¬ (if 0 ≤ v ∧ v ≤ I 6 0 0 0 - 1 then 1 else 0) = 0) => ?_) (fun (c : (if 0 ≤ v ∧ v ≤ I 6 0 0 0 - 1 then 1 else 0) = 0) => ?_)
  · show tkDn tm_128 (18, [some (.inr (.inr (6, 0, 0))), some (.inl v)], [], (I, J, R)) _
    refine dn_run 1 (show tkDn tm_128 (19, [some (.inr (.inr (6, 0, 0))), some (.inl v)], [.inl 0], (I, J, R)) _ from ?_)
    refine dn_retb rfl rfl rfl rfl (by decide) ?_
    rw [if_pos (by by_cases q : 0 ≤ v ∧ v ≤ I 6 0 0 0 - 1; exact hiff.mp q; exact absurd (if_neg q) c)] at hQ
    exact hQ
  · show tkDn tm_128 (14, [some (.inr (.inr (6, 0, 0))), some (.inl v)], [], (I, J, R)) _
    refine dn_run 2 (show tkDn tm_128 (19, [some (.inr (.inr (6, 0, 0))), some (.inl v)], [.inl 1], (I, J, R)) _ from ?_)
    refine dn_retb rfl rfl rfl rfl (by decide) ?_
    rw [if_neg (fun q => by rw [if_pos (hiff.mpr q)] at c; exact absurd c (by decide))] at hQ
    exact hQ
theorem sm_areBounds {I : tkI} {J : tkJ} {R : Nat → Nat} {Q : tkQ} {l h : Int32} (hQ : Q (some (.inl (if fitB l h (-100000) then 1 else 0))) (I, J, R)) : tkDn tm_131 (0, [some (.inl l), some (.inl h)], [], (I, J, R)) Q := by
  refine dn_run 3 (show tkDn tm_131 (5, [some (.inl l), some (.inl h)], [.inl 100000, .inl (-100000), .inl l], (I, J, R)) _ from ?_)
  refine dn_call rfl rfl rfl rfl rfl (sm_in ?_)
  show tkDn tm_131 (8, [some (.inl l), some (.inl h)], [.inl (if -100000 ≤ l ∧ l ≤ 100000 then 1 else 0)], (I, J, R)) _
  refine dn_if rfl rfl rfl (fun (c1 : (if -100000 ≤ l ∧ l ≤ 100000 then 1 else 0) = 0) => ?_) (fun (c1 : ¬ (if -100000 ≤ l ∧ l ≤ 100000 then 1 else 0) = 0) => ?_)
  · show tkDn tm_131 (25, [some (.inl l), some (.inl h)], [], (I, J, R)) _
    refine dn_run 1 (show tkDn tm_131 (26, [some (.inl l), some (.inl h)], [.inl 0], (I, J, R)) _ from ?_)
    refine dn_retb rfl rfl rfl rfl (by decide) ?_
    rw [if_neg (fun q => by rw [if_pos ⟨q.1, Int32.le_trans q.2.1 q.2.2⟩] at c1; exact absurd c1 (by decide))] at hQ
    exact hQ
  · show tkDn tm_131 (11, [some (.inl l), some (.inl h)], [], (I, J, R)) _
    have k1 : -100000 ≤ l ∧ l ≤ 100000 := by by_cases q : -100000 ≤ l ∧ l ≤ 100000; exact q; exact absurd (if_neg q) c1
    refine dn_run 3 (show tkDn tm_131 (15, [some (.inl l), some (.inl h)], [.inl 100000, .inl l, .inl h], (I, J, R)) _ from ?_)
    refine dn_call rfl rfl rfl rfl rfl (sm_in ?_)
    show tkDn tm_131 (18, [some (.inl l), some (.inl h)], [.inl (if l ≤ h ∧ h ≤ 100000 then 1 else 0)], (I, J, R)) _
    refine dn_if rfl rfl rfl (fun (c2 : (if l ≤ h ∧ h ≤ 100000 then 1 else 0) = 0) => ?_) (fun (c2 : ¬ (if l ≤ h ∧ h ≤ 100000 then 1 else 0) = 0) => ?_)
    · show tkDn tm_131 (25, [some (.inl l), some (.inl h)], [], (I, J, R)) _
      refine dn_run 1 (show tkDn tm_131 (26, [some (.inl l), some (.inl h)], [.inl 0], (I, J, R)) _ from ?_)
      refine dn_retb rfl rfl rfl rfl (by decide) ?_
      rw [if_neg (fun q => by rw [if_pos q.2] at c2; exact absurd c2 (by decide))] at hQ
      exact hQ
    · show tkDn tm_131 (21, [some (.inl l), some (.inl h)], [], (I, J, R)) _
      refine dn_run 2 (show tkDn tm_131 (26, [some (.inl l), some (.inl h)], [.inl 1], (I, J, R)) _ from ?_)
      refine dn_retb rfl rfl rfl rfl (by decide) ?_
      rw [if_pos ⟨k1.1, by by_cases q : l ≤ h ∧ h ≤ 100000; exact q; exact absurd (if_neg q) c2⟩] at hQ
      exact hQ
theorem sm_added {I : tkI} {J : tkJ} {R : Nat → Nat} {Q : tkQ} {S : tkS} (hP : NetP (I 6 0) S) {u v : Nat} {l h g : Int32} (hlt : sL S < 60) (hQ : ∀ X, NetP X (app S u v l h g) → mOth (I 6 0) X → mFl (nI (sL S)) (I 6 0) X → Q (some (.inl (nI (sL S)))) (tk_so I 6 0 X, J, R)) : tkDn tm_132 (0, [some (.inr (.inr (6, 0, 0))), some (.inl (nI u)), some (.inl (nI v)), some (.inl l), some (.inl h), some (.inl g)], [], (I, J, R)) Q := by
  have hL := hP.l
  have hin : vp_in (I 6 0 0 1) 60 := by rw [hL]; exact vp_in_nI hlt (by omega)
  refine dn_run 37 (show (vp_in (I 6 0 0 1) 60) ∧ (vp_in (I 6 0 0 1) 60) ∧ (vp_in (I 6 0 0 1) 60) ∧ (vp_in (I 6 0 0 1) 60) ∧ (vp_in (I 6 0 0 1) 60) ∧ tkDn tm_132 (63, [some (.inr (.inr (6, 0, 0))), some (.inl (nI u)), some (.inl (nI v)), some (.inl l), some (.inl h), some (.inl g)], [.inr (.inr (6, 0, 0))], (tk_so (tk_so (tk_so (tk_so (tk_so (tk_so I 6 0 (tk_u2 (I 6 0) 4 ((I 6 0 0 1).toNatClampNeg) (nI u))) 6 0 (tk_u2 (tk_u2 (I 6 0) 4 ((I 6 0 0 1).toNatClampNeg) (nI u)) 5 ((I 6 0 0 1).toNatClampNeg) (nI v))) 6 0 (tk_u2 (tk_u2 (tk_u2 (I 6 0) 4 ((I 6 0 0 1).toNatClampNeg) (nI u)) 5 ((I 6 0 0 1).toNatClampNeg) (nI v)) 6 ((I 6 0 0 1).toNatClampNeg) l)) 6 0 (tk_u2 (tk_u2 (tk_u2 (tk_u2 (I 6 0) 4 ((I 6 0 0 1).toNatClampNeg) (nI u)) 5 ((I 6 0 0 1).toNatClampNeg) (nI v)) 6 ((I 6 0 0 1).toNatClampNeg) l) 7 ((I 6 0 0 1).toNatClampNeg) h)) 6 0 (tk_u2 (tk_u2 (tk_u2 (tk_u2 (tk_u2 (I 6 0) 4 ((I 6 0 0 1).toNatClampNeg) (nI u)) 5 ((I 6 0 0 1).toNatClampNeg) (nI v)) 6 ((I 6 0 0 1).toNatClampNeg) l) 7 ((I 6 0 0 1).toNatClampNeg) h) 8 ((I 6 0 0 1).toNatClampNeg) g)) 6 0 (tk_u2 (tk_u2 (tk_u2 (tk_u2 (tk_u2 (tk_u2 (I 6 0) 4 ((I 6 0 0 1).toNatClampNeg) (nI u)) 5 ((I 6 0 0 1).toNatClampNeg) (nI v)) 6 ((I 6 0 0 1).toNatClampNeg) l) 7 ((I 6 0 0 1).toNatClampNeg) h) 8 ((I 6 0 0 1).toNatClampNeg) g) 0 1 ((I 6 0 0 1) + 1)), J, R)) _ from ⟨hin, hin, hin, hin, hin, ?_⟩)
  rw [tk_so_so, tk_so_so, tk_so_so, tk_so_so, tk_so_so]
  refine dn_call rfl rfl rfl rfl rfl ?_
  show tkDn tm_127 (0, [some (.inr (.inr (6, 0, 0)))], [], (tk_so I 6 0 (tk_u2 (tk_u2 (tk_u2 (tk_u2 (tk_u2 (tk_u2 (I 6 0) 4 ((I 6 0 0 1).toNatClampNeg) (nI u)) 5 ((I 6 0 0 1).toNatClampNeg) (nI v)) 6 ((I 6 0 0 1).toNatClampNeg) l) 7 ((I 6 0 0 1).toNatClampNeg) h) 8 ((I 6 0 0 1).toNatClampNeg) g) 0 1 ((I 6 0 0 1) + 1)), J, R)) _
  refine dn_run 6 (show (0 = 0 ∨ 0 = 1) ∧ (0 = 0 ∨ 0 = 1) ∧ tkDn tm_127 (10, [some (.inr (.inr (6, 0, 0)))], [], (tk_so (tk_so (tk_so I 6 0 (tk_u2 (tk_u2 (tk_u2 (tk_u2 (tk_u2 (tk_u2 (I 6 0) 4 ((I 6 0 0 1).toNatClampNeg) (nI u)) 5 ((I 6 0 0 1).toNatClampNeg) (nI v)) 6 ((I 6 0 0 1).toNatClampNeg) l) 7 ((I 6 0 0 1).toNatClampNeg) h) 8 ((I 6 0 0 1).toNatClampNeg) g) 0 1 ((I 6 0 0 1) + 1))) 6 0 (tk_u2 (tk_u2 (tk_u2 (tk_u2 (tk_u2 (tk_u2 (tk_u2 (I 6 0) 4 ((I 6 0 0 1).toNatClampNeg) (nI u)) 5 ((I 6 0 0 1).toNatClampNeg) (nI v)) 6 ((I 6 0 0 1).toNatClampNeg) l) 7 ((I 6 0 0 1).toNatClampNeg) h) 8 ((I 6 0 0 1).toNatClampNeg) g) 0 1 ((I 6 0 0 1) + 1)) 0 10 0)) 6 0 (tk_u2 (tk_u2 (tk_u2 (tk_u2 (tk_u2 (tk_u2 (tk_u2 (tk_u2 (I 6 0) 4 ((I 6 0 0 1).toNatClampNeg) (nI u)) 5 ((I 6 0 0 1).toNatClampNeg) (nI v)) 6 ((I 6 0 0 1).toNatClampNeg) l) 7 ((I 6 0 0 1).toNatClampNeg) h) 8 ((I 6 0 0 1).toNatClampNeg) g) 0 1 ((I 6 0 0 1) + 1)) 0 10 0) 0 11 0), J, R)) _ from ⟨Or.inl rfl, Or.inl rfl, ?_⟩)
  rw [tk_so_so, tk_so_so]
  refine dn_ret0 rfl rfl rfl rfl ?_
  show tkDn tm_132 (66, [some (.inr (.inr (6, 0, 0))), some (.inl (nI u)), some (.inl (nI v)), some (.inl l), some (.inl h), some (.inl g)], [], (tk_so I 6 0 (tk_u2 (tk_u2 (tk_u2 (tk_u2 (tk_u2 (tk_u2 (tk_u2 (tk_u2 (I 6 0) 4 ((I 6 0 0 1).toNatClampNeg) (nI u)) 5 ((I 6 0 0 1).toNatClampNeg) (nI v)) 6 ((I 6 0 0 1).toNatClampNeg) l) 7 ((I 6 0 0 1).toNatClampNeg) h) 8 ((I 6 0 0 1).toNatClampNeg) g) 0 1 ((I 6 0 0 1) + 1)) 0 10 0) 0 11 0), J, R)) _
  refine dn_run 4 (show tkDn tm_132 (72, [some (.inr (.inr (6, 0, 0))), some (.inl (nI u)), some (.inl (nI v)), some (.inl l), some (.inl h), some (.inl g)], [.inl (((I 6 0 0 1) + 1) - 1)], (tk_so I 6 0 (tk_u2 (tk_u2 (tk_u2 (tk_u2 (tk_u2 (tk_u2 (tk_u2 (tk_u2 (I 6 0) 4 ((I 6 0 0 1).toNatClampNeg) (nI u)) 5 ((I 6 0 0 1).toNatClampNeg) (nI v)) 6 ((I 6 0 0 1).toNatClampNeg) l) 7 ((I 6 0 0 1).toNatClampNeg) h) 8 ((I 6 0 0 1).toNatClampNeg) g) 0 1 ((I 6 0 0 1) + 1)) 0 10 0) 0 11 0), J, R)) _ from ?_)
  refine dn_ret0 rfl rfl rfl rfl ?_
  rw [show I 6 0 0 1 + 1 - 1 = nI (sL S) by rw [hL]; rw [nI_1, nI_sub1]]
  refine hQ _ (NetP_fl (NetP_app hP (by rw [hL, nI_clamp (by omega)]) (by rw [hL]; rw [nI_1]))) ?_ ⟨fun q => absurd q (nI_pos (by omega)), fun _ => ⟨by rw [tk_u2_0 (by decide), tk_u2_1], tk_u2_1⟩⟩
  refine mOth_u (mOth_u (mOth_u (mOth_u (mOth_u (mOth_u (mOth_u (mOth_u mOth.rfl' ?_) ?_) ?_) ?_) ?_) ?_) ?_) ?_ <;> omega
theorem sm_moments {I : tkI} {J : tkJ} {R : Nat → Nat} {Q : tkQ} {S : tkS} (hP : NetP (I 6 0) S) (w : WF S) {n : Int32} (hQ : ∀ X, NetP X (opMom S n).2 → mOth (I 6 0) X → mFl (opMom S n).1 (I 6 0) X → Q (some (.inl (opMom S n).1)) (tk_so I 6 0 X, J, R)) : tkDn tm_130 (0, [some (.inr (.inr (6, 0, 0))), some (.inl n)], [], (I, J, R)) Q := by
  have hM := hP.m
  have hM16 := w.1
  refine dn_run 3 (show tkDn tm_130 (4, [some (.inr (.inr (6, 0, 0))), some (.inl n)], [.inl 16, .inl 1, .inl n], (I, J, R)) _ from ?_)
  refine dn_call rfl rfl rfl rfl rfl (sm_in ?_)
  show tkDn tm_130 (7, [some (.inr (.inr (6, 0, 0))), some (.inl n)], [.inl (if 1 ≤ n ∧ n ≤ 16 then 1 else 0)], (I, J, R)) _
  refine dn_if rfl rfl rfl (fun (c1 : ¬ (if 1 ≤ n ∧ n ≤ 16 then 1 else 0) = 0) => ?_) (fun (c1 : (if 1 ≤ n ∧ n ≤ 16 then 1 else 0) = 0) => ?_)
  · show tkDn tm_130 (13, [some (.inr (.inr (6, 0, 0))), some (.inl n)], [], (I, J, R)) _
    have k1 : 1 ≤ n ∧ n ≤ 16 := by by_cases q : 1 ≤ n ∧ n ≤ 16; exact q; exact absurd (if_neg q) c1
    have k2 : ¬ (n < 1 ∨ 16 < n) := fun q => q.elim (fun q => absurd k1.1 (Int32.not_le.mpr q)) (fun q => absurd k1.2 (Int32.not_le.mpr q))
    refine dn_run 5 (show tkDn tm_130 (21, [some (.inr (.inr (6, 0, 0))), some (.inl n)], [.inl 16, .inl ((I 6 0 0 0) + n)], (I, J, R)) _ from ?_)
    refine dn_if rfl rfl rfl (fun (c2 : ((I 6 0 0 0) + n) ≤ 16) => ?_) (fun (c2 : ¬ ((I 6 0 0 0) + n) ≤ 16) => ?_)
    · show tkDn tm_130 (27, [some (.inr (.inr (6, 0, 0))), some (.inl n)], [], (I, J, R)) _
      rw [hM] at c2
      refine dn_run 7 (show tkDn tm_130 (38, [some (.inr (.inr (6, 0, 0))), some (.inl n)], [.inr (.inr (6, 0, 0))], (tk_so I 6 0 (tk_u2 (I 6 0) 0 0 ((I 6 0 0 0) + n)), J, R)) _ from ?_)
      refine dn_call rfl rfl rfl rfl rfl ?_
      show tkDn tm_127 (0, [some (.inr (.inr (6, 0, 0)))], [], (tk_so I 6 0 (tk_u2 (I 6 0) 0 0 ((I 6 0 0 0) + n)), J, R)) _
      refine dn_run 6 (show (0 = 0 ∨ 0 = 1) ∧ (0 = 0 ∨ 0 = 1) ∧ tkDn tm_127 (10, [some (.inr (.inr (6, 0, 0)))], [], (tk_so (tk_so (tk_so I 6 0 (tk_u2 (I 6 0) 0 0 ((I 6 0 0 0) + n))) 6 0 (tk_u2 (tk_u2 (I 6 0) 0 0 ((I 6 0 0 0) + n)) 0 10 0)) 6 0 (tk_u2 (tk_u2 (tk_u2 (I 6 0) 0 0 ((I 6 0 0 0) + n)) 0 10 0) 0 11 0), J, R)) _ from ⟨Or.inl rfl, Or.inl rfl, ?_⟩)
      rw [tk_so_so, tk_so_so]
      refine dn_ret0 rfl rfl rfl rfl ?_
      show tkDn tm_130 (41, [some (.inr (.inr (6, 0, 0))), some (.inl n)], [], (tk_so I 6 0 (tk_u2 (tk_u2 (tk_u2 (I 6 0) 0 0 ((I 6 0 0 0) + n)) 0 10 0) 0 11 0), J, R)) _
      refine dn_run 2 (show tkDn tm_130 (45, [some (.inr (.inr (6, 0, 0))), some (.inl n)], [.inl ((I 6 0 0 0) + n)], (tk_so I 6 0 (tk_u2 (tk_u2 (tk_u2 (I 6 0) 0 0 ((I 6 0 0 0) + n)) 0 10 0) 0 11 0), J, R)) _ from ?_)
      refine dn_ret0 rfl rfl rfl rfl ?_
      have c3 := Int32.not_lt.mpr c2
      obtain ⟨j, hj, rfl⟩ := nI_of (x := n) (fun q => k2 (Or.inl (Int32.lt_trans q (by decide))))
      have hj16 : j ≤ 16 := by
        have := (nI_leI (a := j) (b := 16) hj (by decide)).mp k1.2
        omega
      have he : opMom S (nI j) = (nI (sM S + j), (sM S + j, S.2)) := by
        unfold opMom
        rw [if_neg k2, if_neg c3, nI_clamp hj]
      rw [he] at hQ
      rw [show I 6 0 0 0 + nI j = nI (sM S + j) by rw [hM, nI_add]]
      refine hQ _ (NetP_fl ⟨by rw [tk_u2_1]; rfl, by rw [tk_u2_0 (by decide)]; exact hP.l, by rw [tk_u2_0 (by decide)]; exact hP.g, fun q hq => ?_, fun q hq => ?_⟩) ?_ ⟨fun q => absurd q (nI_pos (by omega)), fun _ => ⟨by rw [tk_u2_0 (by decide), tk_u2_1], tk_u2_1⟩⟩
      · have := hP.2.2.2.1 q hq
        simp only [tk_u2_0 (show ¬ (4 = 0 ∧ q = 0) by omega), tk_u2_0 (show ¬ (5 = 0 ∧ q = 0) by omega), tk_u2_0 (show ¬ (6 = 0 ∧ q = 0) by omega), tk_u2_0 (show ¬ (7 = 0 ∧ q = 0) by omega), tk_u2_0 (show ¬ (8 = 0 ∧ q = 0) by omega)]
        exact this
      · rw [tk_u2_0 (show ¬ (9 = 0 ∧ q = 0) by omega)]
        exact hP.2.2.2.2 q hq
      · refine mOth_u (mOth_u (mOth_u mOth.rfl' ?_) ?_) ?_ <;> omega
    · show tkDn tm_130 (24, [some (.inr (.inr (6, 0, 0))), some (.inl n)], [], (I, J, R)) _
      refine dn_run 1 (show tkDn tm_130 (26, [some (.inr (.inr (6, 0, 0))), some (.inl n)], [.inl (-14)], (I, J, R)) _ from ?_)
      refine dn_ret0 rfl rfl rfl rfl ?_
      rw [hM] at c2
      rw [show opMom S n = (-14, S) by unfold opMom; rw [if_neg k2, if_pos (Int32.not_le.mp c2)]] at hQ
      have := hQ (I 6 0) hP mOth.rfl' ⟨fun _ => ⟨rfl, rfl⟩, fun q => absurd (show ((-14) : Int32) < 0 by decide) q⟩
      rw [tk_so_id] at this
      exact this
  · show tkDn tm_130 (10, [some (.inr (.inr (6, 0, 0))), some (.inl n)], [], (I, J, R)) _
    refine dn_run 1 (show tkDn tm_130 (12, [some (.inr (.inr (6, 0, 0))), some (.inl n)], [.inl (-12)], (I, J, R)) _ from ?_)
    refine dn_ret0 rfl rfl rfl rfl ?_
    have k2 : n < 1 ∨ 16 < n := by
      by_cases q : n < 1
      · exact Or.inl q
      · by_cases q2 : 16 < n
        · exact Or.inr q2
        · rw [if_pos ⟨Int32.not_lt.mp q, Int32.not_lt.mp q2⟩] at c1; exact absurd c1 (by decide)
    rw [show opMom S n = (-12, S) by unfold opMom; rw [if_pos k2]] at hQ
    have := hQ (I 6 0) hP mOth.rfl' ⟨fun _ => ⟨rfl, rfl⟩, fun q => absurd (show ((-12) : Int32) < 0 by decide) q⟩
    rw [tk_so_id] at this
    exact this
theorem sm_comesFrom_loop {I : tkI} {J : tkJ} {R : Nat → Nat} {Q : tkQ} {S : tkS} (hP : NetP (I 6 0) S) (w : WF S) {m k : Nat} (hk : k < 16) : ∀ n t, up S n t = none → t < sM S → Q (some (.inl (if cfF S k n t = true then 1 else 0))) (I, J, R) → tkDn tm_134 (2, [some (.inr (.inr (6, 0, 0))), some (.inl (nI m)), some (.inl (nI k)), some (.inl (nI t))], [], (I, J, R)) Q := by
  have hM16 := w.1
  have hG6 := w.2.2.1
  have hL60 := w.2.1
  intro n
  induction n with
  | zero =>
    intro t h
    cases h
  | succ n ih =>
    intro t hu ht hQ
    show tkDn tm_134 (2, [some (.inr (.inr (6, 0, 0))), some (.inl (nI m)), some (.inl (nI k)), some (.inl (nI t))], [], (I, J, R)) _
    refine dn_run 2 (show tkDn tm_134 (4, [some (.inr (.inr (6, 0, 0))), some (.inl (nI m)), some (.inl (nI k)), some (.inl (nI t))], [.inl (nI k), .inl (nI t)], (I, J, R)) _ from ?_)
    refine dn_if rfl rfl rfl (fun (c : (nI t) = (nI k)) => ?_) (fun (c : ¬ (nI t) = (nI k)) => ?_)
    · show tkDn tm_134 (34, [some (.inr (.inr (6, 0, 0))), some (.inl (nI m)), some (.inl (nI k)), some (.inl (nI t))], [], (I, J, R)) _
      refine dn_run 2 (show tkDn tm_134 (36, [some (.inr (.inr (6, 0, 0))), some (.inl (nI m)), some (.inl (nI k)), some (.inl (nI t))], [.inl (nI k), .inl (nI t)], (I, J, R)) _ from ?_)
      refine dn_if rfl rfl rfl (fun (c2 : ¬ (nI t) = (nI k)) => ?_) (fun (c2 : (nI t) = (nI k)) => ?_)
      · exact absurd c c2
      · show tkDn tm_134 (39, [some (.inr (.inr (6, 0, 0))), some (.inl (nI m)), some (.inl (nI k)), some (.inl (nI t))], [], (I, J, R)) _
        refine dn_run 2 (show tkDn tm_134 (44, [some (.inr (.inr (6, 0, 0))), some (.inl (nI m)), some (.inl (nI k)), some (.inl (nI t))], [.inl 1], (I, J, R)) _ from ?_)
        refine dn_retb rfl rfl rfl rfl (by decide) ?_
        have c3 : t = k := (nI_eq (by omega) (by omega)).mp c
        rw [show cfF S k (n + 1) t = true from if_pos c3] at hQ
        exact hQ
    · show tkDn tm_134 (7, [some (.inr (.inr (6, 0, 0))), some (.inl (nI m)), some (.inl (nI k)), some (.inl (nI t))], [], (I, J, R)) _
      have c3 : ¬ t = k := fun q => c (by rw [q])
      refine dn_run 2 (show tkDn tm_134 (9, [some (.inr (.inr (6, 0, 0))), some (.inl (nI m)), some (.inl (nI k)), some (.inl (nI t))], [.inl (nI t), .inr (.inr (6, 0, 0))], (I, J, R)) _ from ?_)
      refine dn_call rfl rfl rfl rfl rfl (sm_giftTo hP w (by omega) ?_)
      show tkDn tm_134 (12, [some (.inr (.inr (6, 0, 0))), some (.inl (nI m)), some (.inl (nI k)), some (.inl (nI t))], [.inl (if gt S t < sG S then nI (gt S t) else -1)], (I, J, R)) _
      refine dn_if rfl rfl rfl (fun (c2 : (if gt S t < sG S then nI (gt S t) else -1) < 0) => ?_) (fun (c2 : ¬ (if gt S t < sG S then nI (gt S t) else -1) < 0) => ?_)
      · show tkDn tm_134 (34, [some (.inr (.inr (6, 0, 0))), some (.inl (nI m)), some (.inl (nI k)), some (.inl (nI t))], [], (I, J, R)) _
        have hg : ¬ gt S t < sG S := fun q => by rw [if_pos q] at c2; exact nI_pos (by omega) c2
        refine dn_run 2 (show tkDn tm_134 (36, [some (.inr (.inr (6, 0, 0))), some (.inl (nI m)), some (.inl (nI k)), some (.inl (nI t))], [.inl (nI k), .inl (nI t)], (I, J, R)) _ from ?_)
        refine dn_if rfl rfl rfl (fun (c4 : ¬ (nI t) = (nI k)) => ?_) (fun (c4 : (nI t) = (nI k)) => ?_)
        · show tkDn tm_134 (43, [some (.inr (.inr (6, 0, 0))), some (.inl (nI m)), some (.inl (nI k)), some (.inl (nI t))], [], (I, J, R)) _
          refine dn_run 1 (show tkDn tm_134 (44, [some (.inr (.inr (6, 0, 0))), some (.inl (nI m)), some (.inl (nI k)), some (.inl (nI t))], [.inl 0], (I, J, R)) _ from ?_)
          refine dn_retb rfl rfl rfl rfl (by decide) ?_
          rw [show cfF S k (n + 1) t = false by show (if t = k then true else if gt S t < sG S then _ else _) = _; rw [if_neg c3, if_neg hg]] at hQ
          exact hQ
        · exact absurd c4 c
      · show tkDn tm_134 (15, [some (.inr (.inr (6, 0, 0))), some (.inl (nI m)), some (.inl (nI k)), some (.inl (nI t))], [], (I, J, R)) _
        have hg : gt S t < sG S := by by_cases q : gt S t < sG S; exact q; rw [if_neg q] at c2; exact absurd (by decide) c2
        have h1 := hP.gl w hg
        have hl := w.gl hg
        have h2 := hP.fr w hl
        refine dn_run 6 (show tkDn tm_134 (25, [some (.inr (.inr (6, 0, 0))), some (.inl (nI m)), some (.inl (nI k)), some (.inl (nI t))], [.inl (nI t), .inr (.inr (6, 0, 0)), .inr (.inr (6, 0, 9)), .inr (.inr (6, 0, 4))], (I, J, R)) _ from ?_)
        refine dn_call rfl rfl rfl rfl rfl (sm_giftTo hP w (by omega) ?_)
        show tkDn tm_134 (28, [some (.inr (.inr (6, 0, 0))), some (.inl (nI m)), some (.inl (nI k)), some (.inl (nI t))], [.inl (if gt S t < sG S then nI (gt S t) else -1), .inr (.inr (6, 0, 9)), .inr (.inr (6, 0, 4))], (I, J, R)) _
        rw [if_pos hg]
        show tkDn tm_134 (28, [some (.inr (.inr (6, 0, 0))), some (.inl (nI m)), some (.inl (nI k)), some (.inl (nI t))], [.inl (nI (gt S t)), .inr (.inr (6, 0, 9)), .inr (.inr (6, 0, 4))], (I, J, R)) _
        refine dn_run 4 (show (vp_in (nI (gt S t)) 6) ∧ (vp_in (I 6 0 9 ((nI (gt S t)).toNatClampNeg)) 60) ∧ tkDn tm_134 (2, [some (.inr (.inr (6, 0, 0))), some (.inl (nI m)), some (.inl (nI k)), some (.inl (I 6 0 4 ((I 6 0 9 ((nI (gt S t)).toNatClampNeg)).toNatClampNeg)))], [], (I, J, R)) _ from ⟨vp_in_nI (by omega) (by omega), by rw [h1]; exact vp_in_nI (by omega) (by omega), ?_⟩)
        rw [h1, h2]
        rw [show cfF S k (n + 1) t = cfF S k n (sf S (sgl S (gt S t))) by show (if t = k then true else if gt S t < sG S then _ else _) = _; rw [if_neg c3, if_pos hg]] at hQ
        exact ih _ (by rw [show up S (n + 1) t = up S n (sf S (sgl S (gt S t))) from if_pos hg] at hu; exact hu) (w.fM hl) hQ
theorem sm_comesFrom {I : tkI} {J : tkJ} {R : Nat → Nat} {Q : tkQ} {S : tkS} (hP : NetP (I 6 0) S) (w : WF S) {m k : Nat} (hm : m < sM S) (hk : k < 16) (hQ : Q (some (.inl (if cfF S k 7 m = true then 1 else 0))) (I, J, R)) : tkDn tm_134 (0, [some (.inr (.inr (6, 0, 0))), some (.inl (nI m)), some (.inl (nI k)), none], [], (I, J, R)) Q := by
  refine dn_run 2 (show tkDn tm_134 (2, [some (.inr (.inr (6, 0, 0))), some (.inl (nI m)), some (.inl (nI k)), some (.inl (nI m))], [], (I, J, R)) _ from ?_)
  exact sm_comesFrom_loop hP w hk 7 m (up7 w m) hm hQ
