/-! Steps.close: the closing of a table, at each place where it is used -/
theorem ss_lowerRowVia_0_1_loop {I : tkI} {J : tkJ} {R : Nat → Nat} {Q : tkQ} {d : tkD} {n a k : Nat} {F : Int64} (hn : n ≤ 16) (ha : a < n) (hk : k < n) (hQ : ∀ r, RowP 16 r (rvM d a k F n) → Q none (I, tk_so J 0 0 (tk_u1 (J 0 0) 1 r), R)) : ∀ m c r o, c + m = n → RowP 16 r (rvM d a k F c) → tkDn tm_67 (23, [some (.inr (.inr (0, 0, 1))), some (.inl (nI n)), some (.inl (nI a)), some (.inl (nI k)), some (.inl (nI a * 16)), some (.inl (nI k * 16)), some (.inr (.inl F)), none, some (.inl (nI c)), o, none], [], (I, tk_so J 0 0 (tk_u1 (J 0 0) 1 r), R)) Q := by
  intro m
  induction m with
  | zero =>
    intro c r o hc hr
    show tkDn tm_67 (23, [some (.inr (.inr (0, 0, 1))), some (.inl (nI n)), some (.inl (nI a)), some (.inl (nI k)), some (.inl (nI a * 16)), some (.inl (nI k * 16)), some (.inr (.inl F)), none, some (.inl (nI c)), o, none], [], (I, tk_so J 0 0 (tk_u1 (J 0 0) 1 r), R)) _
    refine dn_run 2 (show tkDn tm_67 (26, [some (.inr (.inr (0, 0, 1))), some (.inl (nI n)), some (.inl (nI a)), some (.inl (nI k)), some (.inl (nI a * 16)), some (.inl (nI k * 16)), some (.inr (.inl F)), none, some (.inl (nI c)), o, none], [.inl (nI n), .inl (nI c)], (I, tk_so J 0 0 (tk_u1 (J 0 0) 1 r), R)) _ from ?_)
    refine dn_if rfl rfl rfl (fun (q : (nI n) ≤ (nI c)) => ?_) (fun (q : ¬ (nI n) ≤ (nI c)) => ?_)
    · show tkDn tm_67 (90, [some (.inr (.inr (0, 0, 1))), some (.inl (nI n)), some (.inl (nI a)), some (.inl (nI k)), some (.inl (nI a * 16)), some (.inl (nI k * 16)), some (.inr (.inl F)), none, some (.inl (nI c)), o, none], [], (I, tk_so J 0 0 (tk_u1 (J 0 0) 1 r), R)) _
      refine dn_ret0 rfl rfl rfl rfl ?_
      rw [show c = n by omega] at hr
      exact hQ r hr
    · exact absurd (nI_le (by omega) (by omega)) q
  | succ m ih =>
    intro c r o hc hr
    show tkDn tm_67 (23, [some (.inr (.inr (0, 0, 1))), some (.inl (nI n)), some (.inl (nI a)), some (.inl (nI k)), some (.inl (nI a * 16)), some (.inl (nI k * 16)), some (.inr (.inl F)), none, some (.inl (nI c)), o, none], [], (I, tk_so J 0 0 (tk_u1 (J 0 0) 1 r), R)) _
    refine dn_run 2 (show tkDn tm_67 (26, [some (.inr (.inr (0, 0, 1))), some (.inl (nI n)), some (.inl (nI a)), some (.inl (nI k)), some (.inl (nI a * 16)), some (.inl (nI k * 16)), some (.inr (.inl F)), none, some (.inl (nI c)), o, none], [.inl (nI n), .inl (nI c)], (I, tk_so J 0 0 (tk_u1 (J 0 0) 1 r), R)) _ from ?_)
    refine dn_if rfl rfl rfl (fun (q : (nI n) ≤ (nI c)) => ?_) (fun (q : ¬ (nI n) ≤ (nI c)) => ?_)
    · exact absurd q (nI_ge (by omega) (by omega))
    · show tkDn tm_67 (29, [some (.inr (.inr (0, 0, 1))), some (.inl (nI n)), some (.inl (nI a)), some (.inl (nI k)), some (.inl (nI a * 16)), some (.inl (nI k * 16)), some (.inr (.inl F)), none, some (.inl (nI c)), o, none], [], (I, tk_so J 0 0 (tk_u1 (J 0 0) 1 r), R)) _
      refine dn_run 6 (show (vp_in ((nI k * 16) + (nI c)) 256) ∧ tkDn tm_67 (38, [some (.inr (.inr (0, 0, 1))), some (.inl (nI n)), some (.inl (nI a)), some (.inl (nI k)), some (.inl (nI a * 16)), some (.inl (nI k * 16)), some (.inr (.inl F)), none, some (.inl (nI c)), some (.inr (.inl (r (((nI k * 16) + (nI c)).toNatClampNeg)))), none], [], (I, tk_so J 0 0 (tk_u1 (J 0 0) 1 r), R)) _ from ⟨by rw [ix16]; exact vp_in_nI (by omega) (by omega), ?_⟩)
      rw [ix16, hr.at (by omega) (by omega) (by omega)]
      show tkDn tm_67 (38, [some (.inr (.inr (0, 0, 1))), some (.inl (nI n)), some (.inl (nI a)), some (.inl (nI k)), some (.inl (nI a * 16)), some (.inl (nI k * 16)), some (.inr (.inl F)), none, some (.inl (nI c)), some (.inr (.inl (rvM d a k F c k c))), none], [], (I, tk_so J 0 0 (tk_u1 (J 0 0) 1 r), R)) _
      refine dn_run 3 (show tkDn tm_67 (44, [some (.inr (.inr (0, 0, 1))), some (.inl (nI n)), some (.inl (nI a)), some (.inl (nI k)), some (.inl (nI a * 16)), some (.inl (nI k * 16)), some (.inr (.inl F)), none, some (.inl (nI c)), some (.inr (.inl (rvM d a k F c k c))), none], [.inl (lg_cmp F 4611686018427387904)], (I, tk_so J 0 0 (tk_u1 (J 0 0) 1 r), R)) _ from ?_)
      refine dn_if rfl rfl rfl (fun (q1 : (lg_cmp F 4611686018427387904) = 0) => ?_) (fun (q1 : ¬ (lg_cmp F 4611686018427387904) = 0) => ?_)
      · show tkDn tm_67 (84, [some (.inr (.inr (0, 0, 1))), some (.inl (nI n)), some (.inl (nI a)), some (.inl (nI k)), some (.inl (nI a * 16)), some (.inl (nI k * 16)), some (.inr (.inl F)), none, some (.inl (nI c)), some (.inr (.inl (rvM d a k F c k c))), none], [], (I, tk_so J 0 0 (tk_u1 (J 0 0) 1 r), R)) _
        refine dn_run 2 (show tkDn tm_67 (23, [some (.inr (.inr (0, 0, 1))), some (.inl (nI n)), some (.inl (nI a)), some (.inl (nI k)), some (.inl (nI a * 16)), some (.inl (nI k * 16)), some (.inr (.inl F)), none, some (.inl ((nI c) + 1)), some (.inr (.inl (rvM d a k F c k c))), none], [], (I, tk_so J 0 0 (tk_u1 (J 0 0) 1 r), R)) _ from ?_)
        rw [nI_1]
        exact ih (c + 1) r _ (by omega) (by rw [show rvM d a k F (c + 1) = rvM d a k F c from if_neg (fun z => z.1 ((lg_cmp_eq _ _).mp q1))]; exact hr)
      · show tkDn tm_67 (47, [some (.inr (.inr (0, 0, 1))), some (.inl (nI n)), some (.inl (nI a)), some (.inl (nI k)), some (.inl (nI a * 16)), some (.inl (nI k * 16)), some (.inr (.inl F)), none, some (.inl (nI c)), some (.inr (.inl (rvM d a k F c k c))), none], [], (I, tk_so J 0 0 (tk_u1 (J 0 0) 1 r), R)) _
        refine dn_run 3 (show tkDn tm_67 (53, [some (.inr (.inr (0, 0, 1))), some (.inl (nI n)), some (.inl (nI a)), some (.inl (nI k)), some (.inl (nI a * 16)), some (.inl (nI k * 16)), some (.inr (.inl F)), none, some (.inl (nI c)), some (.inr (.inl (rvM d a k F c k c))), none], [.inl (lg_cmp (rvM d a k F c k c) 4611686018427387904)], (I, tk_so J 0 0 (tk_u1 (J 0 0) 1 r), R)) _ from ?_)
        refine dn_if rfl rfl rfl (fun (q2 : (lg_cmp (rvM d a k F c k c) 4611686018427387904) = 0) => ?_) (fun (q2 : ¬ (lg_cmp (rvM d a k F c k c) 4611686018427387904) = 0) => ?_)
        · show tkDn tm_67 (84, [some (.inr (.inr (0, 0, 1))), some (.inl (nI n)), some (.inl (nI a)), some (.inl (nI k)), some (.inl (nI a * 16)), some (.inl (nI k * 16)), some (.inr (.inl F)), none, some (.inl (nI c)), some (.inr (.inl (rvM d a k F c k c))), none], [], (I, tk_so J 0 0 (tk_u1 (J 0 0) 1 r), R)) _
          refine dn_run 2 (show tkDn tm_67 (23, [some (.inr (.inr (0, 0, 1))), some (.inl (nI n)), some (.inl (nI a)), some (.inl (nI k)), some (.inl (nI a * 16)), some (.inl (nI k * 16)), some (.inr (.inl F)), none, some (.inl ((nI c) + 1)), some (.inr (.inl (rvM d a k F c k c))), none], [], (I, tk_so J 0 0 (tk_u1 (J 0 0) 1 r), R)) _ from ?_)
          rw [nI_1]
          exact ih (c + 1) r _ (by omega) (by rw [show rvM d a k F (c + 1) = rvM d a k F c from if_neg (fun z => z.2.1 ((lg_cmp_eq _ _).mp q2))]; exact hr)
        · show tkDn tm_67 (56, [some (.inr (.inr (0, 0, 1))), some (.inl (nI n)), some (.inl (nI a)), some (.inl (nI k)), some (.inl (nI a * 16)), some (.inl (nI k * 16)), some (.inr (.inl F)), none, some (.inl (nI c)), some (.inr (.inl (rvM d a k F c k c))), none], [], (I, tk_so J 0 0 (tk_u1 (J 0 0) 1 r), R)) _
          refine dn_run 9 (show (vp_in ((nI a * 16) + (nI c)) 256) ∧ tkDn tm_67 (69, [some (.inr (.inr (0, 0, 1))), some (.inl (nI n)), some (.inl (nI a)), some (.inl (nI k)), some (.inl (nI a * 16)), some (.inl (nI k * 16)), some (.inr (.inl F)), none, some (.inl (nI c)), some (.inr (.inl (rvM d a k F c k c))), none], [.inl (lg_cmp (F + (rvM d a k F c k c)) (r (((nI a * 16) + (nI c)).toNatClampNeg)))], (I, tk_so J 0 0 (tk_u1 (J 0 0) 1 r), R)) _ from ⟨by rw [ix16]; exact vp_in_nI (by omega) (by omega), ?_⟩)
          rw [ix16, hr.at (by omega) (by omega) (by omega)]
          refine dn_if rfl rfl rfl (fun (q3 : 0 ≤ (lg_cmp (F + rvM d a k F c k c) (rvM d a k F c a c))) => ?_) (fun (q3 : ¬ 0 ≤ (lg_cmp (F + rvM d a k F c k c) (rvM d a k F c a c))) => ?_)
          · show tkDn tm_67 (84, [some (.inr (.inr (0, 0, 1))), some (.inl (nI n)), some (.inl (nI a)), some (.inl (nI k)), some (.inl (nI a * 16)), some (.inl (nI k * 16)), some (.inr (.inl F)), none, some (.inl (nI c)), some (.inr (.inl (rvM d a k F c k c))), none], [], (I, tk_so J 0 0 (tk_u1 (J 0 0) 1 r), R)) _
            refine dn_run 2 (show tkDn tm_67 (23, [some (.inr (.inr (0, 0, 1))), some (.inl (nI n)), some (.inl (nI a)), some (.inl (nI k)), some (.inl (nI a * 16)), some (.inl (nI k * 16)), some (.inr (.inl F)), none, some (.inl ((nI c) + 1)), some (.inr (.inl (rvM d a k F c k c))), none], [], (I, tk_so J 0 0 (tk_u1 (J 0 0) 1 r), R)) _ from ?_)
            rw [nI_1]
            exact ih (c + 1) r _ (by omega) (by rw [show rvM d a k F (c + 1) = rvM d a k F c from if_neg (fun z => absurd z.2.2 (Int64.not_lt.mpr ((lg_cmp_ge _ _).mp q3)))]; exact hr)
          · show tkDn tm_67 (72, [some (.inr (.inr (0, 0, 1))), some (.inl (nI n)), some (.inl (nI a)), some (.inl (nI k)), some (.inl (nI a * 16)), some (.inl (nI k * 16)), some (.inr (.inl F)), none, some (.inl (nI c)), some (.inr (.inl (rvM d a k F c k c))), none], [], (I, tk_so J 0 0 (tk_u1 (J 0 0) 1 r), R)) _
            have q3 := Int64.not_le.mp (fun t => q3 ((lg_cmp_ge _ _).mpr t))
            refine dn_run 10 (show (vp_in ((nI a * 16) + (nI c)) 256) ∧ tkDn tm_67 (23, [some (.inr (.inr (0, 0, 1))), some (.inl (nI n)), some (.inl (nI a)), some (.inl (nI k)), some (.inl (nI a * 16)), some (.inl (nI k * 16)), some (.inr (.inl F)), none, some (.inl ((nI c) + 1)), some (.inr (.inl (rvM d a k F c k c))), none], [], (I, tk_so (tk_so J 0 0 (tk_u1 (J 0 0) 1 r)) 0 0 (tk_u2 (tk_u1 (J 0 0) 1 r) 1 (((nI a * 16) + (nI c)).toNatClampNeg) (F + (rvM d a k F c k c))), R)) _ from ⟨by rw [ix16]; exact vp_in_nI (by omega) (by omega), ?_⟩)
            rw [tk_so_so]
            rw [tk_u2_u1, ix16, nI_clamp (show 16 * a + c < 2 ^ 31 by omega), nI_1]
            exact ih (c + 1) _ _ (by omega) (by rw [show rvM d a k F (c + 1) = upM (rvM d a k F c) a c (F + rvM d a k F c k c) from if_pos ⟨fun z => q1 ((lg_cmp_eq _ _).mpr z), fun z => q2 ((lg_cmp_eq _ _).mpr z), q3⟩]; exact hr.put (by omega) (by omega))
theorem ss_lowerRowVia_0_1 {I : tkI} {J : tkJ} {R : Nat → Nat} {Q : tkQ} {d : tkD} {n a k : Nat} (hn : n ≤ 16) (ha : a < n) (hk : k < n) (hr : RowP 16 (J 0 0 1) d) (hQ : ∀ r, RowP 16 r (rvM d a k (d a k) n) → Q none (I, tk_so J 0 0 (tk_u1 (J 0 0) 1 r), R)) : tkDn tm_67 (0, [some (.inr (.inr (0, 0, 1))), some (.inl (nI n)), some (.inl (nI a)), some (.inl (nI k)), none, none, none, none, none, none, none], [], (I, J, R)) Q := by
  refine dn_run 14 (show (vp_in (((nI a) * 16) + (nI k)) 256) ∧ tkDn tm_67 (20, [some (.inr (.inr (0, 0, 1))), some (.inl (nI n)), some (.inl (nI a)), some (.inl (nI k)), some (.inl ((nI a) * 16)), some (.inl ((nI k) * 16)), some (.inr (.inl (J 0 0 1 ((((nI a) * 16) + (nI k)).toNatClampNeg)))), none, none, none, none], [], (I, J, R)) _ from ⟨by rw [ix16]; exact vp_in_nI (by omega) (by omega), ?_⟩)
  rw [ix16, hr.at (by omega) (by omega) (by omega)]
  show tkDn tm_67 (20, [some (.inr (.inr (0, 0, 1))), some (.inl (nI n)), some (.inl (nI a)), some (.inl (nI k)), some (.inl ((nI a) * 16)), some (.inl ((nI k) * 16)), some (.inr (.inl (d a k))), none, none, none, none], [], (I, J, R)) _
  refine dn_run 2 (show tkDn tm_67 (23, [some (.inr (.inr (0, 0, 1))), some (.inl (nI n)), some (.inl (nI a)), some (.inl (nI k)), some (.inl ((nI a) * 16)), some (.inl ((nI k) * 16)), some (.inr (.inl (d a k))), none, some (.inl 0), none, none], [], (I, J, R)) _ from ?_)
  have := ss_lowerRowVia_0_1_loop (J := J) hn ha hk hQ n 0 (J 0 0 1) none (Nat.zero_add _) hr
  rw [jr_id] at this
  exact this
theorem ss_neg_0_1_loop {I : tkI} {J : tkJ} {R : Nat → Nat} {Q : tkQ} {d : tkD} {n : Nat} (hn : n ≤ 16) (hr : RowP 16 (J 0 0 1) d) : ∀ m c, c + m = n → Q (some (.inl (if negF d m c = true then 1 else 0))) (I, J, R) → tkDn tm_68 (2, [some (.inr (.inr (0, 0, 1))), some (.inl (nI n)), some (.inl (nI c))], [], (I, J, R)) Q := by
  intro m
  induction m with
  | zero =>
    intro c hc hQ
    show tkDn tm_68 (2, [some (.inr (.inr (0, 0, 1))), some (.inl (nI n)), some (.inl (nI c))], [], (I, J, R)) _
    refine dn_run 2 (show tkDn tm_68 (4, [some (.inr (.inr (0, 0, 1))), some (.inl (nI n)), some (.inl (nI c))], [.inl (nI n), .inl (nI c)], (I, J, R)) _ from ?_)
    refine dn_if rfl rfl rfl (fun (q : (nI n) ≤ (nI c)) => ?_) (fun (q : ¬ (nI n) ≤ (nI c)) => ?_)
    · show tkDn tm_68 (28, [some (.inr (.inr (0, 0, 1))), some (.inl (nI n)), some (.inl (nI c))], [], (I, J, R)) _
      refine dn_run 1 (show tkDn tm_68 (29, [some (.inr (.inr (0, 0, 1))), some (.inl (nI n)), some (.inl (nI c))], [.inl 0], (I, J, R)) _ from ?_)
      refine dn_retb rfl rfl rfl rfl (by decide) ?_
      exact hQ
    · exact absurd (nI_le (by omega) (by omega)) q
  | succ m ih =>
    intro c hc hQ
    show tkDn tm_68 (2, [some (.inr (.inr (0, 0, 1))), some (.inl (nI n)), some (.inl (nI c))], [], (I, J, R)) _
    refine dn_run 2 (show tkDn tm_68 (4, [some (.inr (.inr (0, 0, 1))), some (.inl (nI n)), some (.inl (nI c))], [.inl (nI n), .inl (nI c)], (I, J, R)) _ from ?_)
    refine dn_if rfl rfl rfl (fun (q : (nI n) ≤ (nI c)) => ?_) (fun (q : ¬ (nI n) ≤ (nI c)) => ?_)
    · exact absurd q (nI_ge (by omega) (by omega))
    · show tkDn tm_68 (7, [some (.inr (.inr (0, 0, 1))), some (.inl (nI n)), some (.inl (nI c))], [], (I, J, R)) _
      refine dn_run 9 (show (vp_in (((nI c) * 16) + (nI c)) 256) ∧ tkDn tm_68 (17, [some (.inr (.inr (0, 0, 1))), some (.inl (nI n)), some (.inl (nI c))], [.inl (lg_cmp (J 0 0 1 ((((nI c) * 16) + (nI c)).toNatClampNeg)) 0)], (I, J, R)) _ from ⟨by rw [ix16]; exact vp_in_nI (by omega) (by omega), ?_⟩)
      rw [ix16, hr.at (by omega) (by omega) (by omega)]
      refine dn_if rfl rfl rfl (fun (q2 : 0 ≤ (lg_cmp (d c c) 0)) => ?_) (fun (q2 : ¬ 0 ≤ (lg_cmp (d c c) 0)) => ?_)
      · show tkDn tm_68 (22, [some (.inr (.inr (0, 0, 1))), some (.inl (nI n)), some (.inl (nI c))], [], (I, J, R)) _
        refine dn_run 2 (show tkDn tm_68 (2, [some (.inr (.inr (0, 0, 1))), some (.inl (nI n)), some (.inl ((nI c) + 1))], [], (I, J, R)) _ from ?_)
        rw [nI_1]
        rw [show negF d (m + 1) c = negF d m (c + 1) from if_neg (Int64.not_lt.mpr ((lg_cmp_ge _ _).mp q2))] at hQ
        exact ih (c + 1) (by omega) hQ
      · show tkDn tm_68 (20, [some (.inr (.inr (0, 0, 1))), some (.inl (nI n)), some (.inl (nI c))], [], (I, J, R)) _
        refine dn_run 1 (show tkDn tm_68 (21, [some (.inr (.inr (0, 0, 1))), some (.inl (nI n)), some (.inl (nI c))], [.inl 1], (I, J, R)) _ from ?_)
        refine dn_retb rfl rfl rfl rfl (by decide) ?_
        rw [show negF d (m + 1) c = true from if_pos (Int64.not_le.mp (fun t => q2 ((lg_cmp_ge _ _).mpr t)))] at hQ
        exact hQ
theorem ss_neg_0_1 {I : tkI} {J : tkJ} {R : Nat → Nat} {Q : tkQ} {d : tkD} {n : Nat} (hn : n ≤ 16) (hr : RowP 16 (J 0 0 1) d) (hQ : Q (some (.inl (if negF d n 0 = true then 1 else 0))) (I, J, R)) : tkDn tm_68 (0, [some (.inr (.inr (0, 0, 1))), some (.inl (nI n)), none], [], (I, J, R)) Q := by
  refine dn_run 2 (show tkDn tm_68 (2, [some (.inr (.inr (0, 0, 1))), some (.inl (nI n)), some (.inl 0)], [], (I, J, R)) _ from ?_)
  exact ss_neg_0_1_loop hn hr n 0 (Nat.zero_add _) hQ
theorem ss_close_0_1_in {I : tkI} {J : tkJ} {R : Nat → Nat} {Q : tkQ} {d : tkD} {n v : Nat} (hn : n ≤ 16) (hv : v < n) (hK : ∀ r, RowP 16 r (viM d v n n) → tkDn tm_66 (37, [some (.inr (.inr (0, 0, 1))), some (.inl (nI n)), some (.inl (nI v)), some (.inl (nI n))], [], (I, tk_so J 0 0 (tk_u1 (J 0 0) 1 r), R)) Q) : ∀ m a r, a + m = n → RowP 16 r (viM d v n a) → tkDn tm_66 (19, [some (.inr (.inr (0, 0, 1))), some (.inl (nI n)), some (.inl (nI v)), some (.inl (nI a))], [], (I, tk_so J 0 0 (tk_u1 (J 0 0) 1 r), R)) Q := by
  intro m
  induction m with
  | zero =>
    intro a r ha hr
    have ha : a = n := by omega
    subst ha
    show tkDn tm_66 (19, [some (.inr (.inr (0, 0, 1))), some (.inl (nI a)), some (.inl (nI v)), some (.inl (nI a))], [], (I, tk_so J 0 0 (tk_u1 (J 0 0) 1 r), R)) _
    refine dn_run 2 (show tkDn tm_66 (21, [some (.inr (.inr (0, 0, 1))), some (.inl (nI a)), some (.inl (nI v)), some (.inl (nI a))], [.inl (nI a), .inl (nI a)], (I, tk_so J 0 0 (tk_u1 (J 0 0) 1 r), R)) _ from ?_)
    refine dn_if rfl rfl rfl (fun (q : (nI a) ≤ (nI a)) => ?_) (fun (q : ¬ (nI a) ≤ (nI a)) => ?_)
    · show tkDn tm_66 (37, [some (.inr (.inr (0, 0, 1))), some (.inl (nI a)), some (.inl (nI v)), some (.inl (nI a))], [], (I, tk_so J 0 0 (tk_u1 (J 0 0) 1 r), R)) _
      exact hK r hr
    · exact absurd (nI_le (by omega) (by omega)) q
  | succ m ih =>
    intro a r ha hr
    show tkDn tm_66 (19, [some (.inr (.inr (0, 0, 1))), some (.inl (nI n)), some (.inl (nI v)), some (.inl (nI a))], [], (I, tk_so J 0 0 (tk_u1 (J 0 0) 1 r), R)) _
    refine dn_run 2 (show tkDn tm_66 (21, [some (.inr (.inr (0, 0, 1))), some (.inl (nI n)), some (.inl (nI v)), some (.inl (nI a))], [.inl (nI n), .inl (nI a)], (I, tk_so J 0 0 (tk_u1 (J 0 0) 1 r), R)) _ from ?_)
    refine dn_if rfl rfl rfl (fun (q : (nI n) ≤ (nI a)) => ?_) (fun (q : ¬ (nI n) ≤ (nI a)) => ?_)
    · exact absurd q (nI_ge (by omega) (by omega))
    · show tkDn tm_66 (24, [some (.inr (.inr (0, 0, 1))), some (.inl (nI n)), some (.inl (nI v)), some (.inl (nI a))], [], (I, tk_so J 0 0 (tk_u1 (J 0 0) 1 r), R)) _
      refine dn_run 4 (show tkDn tm_66 (28, [some (.inr (.inr (0, 0, 1))), some (.inl (nI n)), some (.inl (nI v)), some (.inl (nI a))], [.inl (nI v), .inl (nI a), .inl (nI n), .inr (.inr (0, 0, 1))], (I, tk_so J 0 0 (tk_u1 (J 0 0) 1 r), R)) _ from ?_)
      refine dn_call rfl rfl rfl rfl rfl (ss_lowerRowVia_0_1 (d := viM d v n a) hn (by omega) hv hr (fun r2 hr2 => ?_))
      rw [tk_so_so, tk_so_same, tk_u1_u1]
      show tkDn tm_66 (31, [some (.inr (.inr (0, 0, 1))), some (.inl (nI n)), some (.inl (nI v)), some (.inl (nI a))], [], (I, tk_so J 0 0 (tk_u1 (J 0 0) 1 r2), R)) _
      refine dn_run 2 (show tkDn tm_66 (19, [some (.inr (.inr (0, 0, 1))), some (.inl (nI n)), some (.inl (nI v)), some (.inl ((nI a) + 1))], [], (I, tk_so J 0 0 (tk_u1 (J 0 0) 1 r2), R)) _ from ?_)
      rw [nI_1]
      exact ih (a + 1) r2 (by omega) hr2
theorem ss_close_0_1_out {I : tkI} {J : tkJ} {R : Nat → Nat} {Q : tkQ} {n : Nat} (hn : n ≤ 16) : ∀ m v d r o, v + m = n → RowP 16 r d → (∀ r, RowP 16 r (clL n m v d).2 → Q (some (.inl (if (clL n m v d).1 = true then 1 else 0))) (I, tk_so J 0 0 (tk_u1 (J 0 0) 1 r), R)) → tkDn tm_66 (12, [some (.inr (.inr (0, 0, 1))), some (.inl (nI n)), some (.inl (nI v)), o], [], (I, tk_so J 0 0 (tk_u1 (J 0 0) 1 r), R)) Q := by
  intro m
  induction m with
  | zero =>
    intro v d r o hv hr hQ
    show tkDn tm_66 (12, [some (.inr (.inr (0, 0, 1))), some (.inl (nI n)), some (.inl (nI v)), o], [], (I, tk_so J 0 0 (tk_u1 (J 0 0) 1 r), R)) _
    refine dn_run 2 (show tkDn tm_66 (14, [some (.inr (.inr (0, 0, 1))), some (.inl (nI n)), some (.inl (nI v)), o], [.inl (nI n), .inl (nI v)], (I, tk_so J 0 0 (tk_u1 (J 0 0) 1 r), R)) _ from ?_)
    refine dn_if rfl rfl rfl (fun (q : (nI n) ≤ (nI v)) => ?_) (fun (q : ¬ (nI n) ≤ (nI v)) => ?_)
    · show tkDn tm_66 (53, [some (.inr (.inr (0, 0, 1))), some (.inl (nI n)), some (.inl (nI v)), o], [], (I, tk_so J 0 0 (tk_u1 (J 0 0) 1 r), R)) _
      refine dn_run 1 (show tkDn tm_66 (54, [some (.inr (.inr (0, 0, 1))), some (.inl (nI n)), some (.inl (nI v)), o], [.inl 1], (I, tk_so J 0 0 (tk_u1 (J 0 0) 1 r), R)) _ from ?_)
      refine dn_retb rfl rfl rfl rfl (by decide) ?_
      exact hQ r hr
    · exact absurd (nI_le (by omega) (by omega)) q
  | succ m ih =>
    intro v d r o hv hr hQ
    show tkDn tm_66 (12, [some (.inr (.inr (0, 0, 1))), some (.inl (nI n)), some (.inl (nI v)), o], [], (I, tk_so J 0 0 (tk_u1 (J 0 0) 1 r), R)) _
    refine dn_run 2 (show tkDn tm_66 (14, [some (.inr (.inr (0, 0, 1))), some (.inl (nI n)), some (.inl (nI v)), o], [.inl (nI n), .inl (nI v)], (I, tk_so J 0 0 (tk_u1 (J 0 0) 1 r), R)) _ from ?_)
    refine dn_if rfl rfl rfl (fun (q : (nI n) ≤ (nI v)) => ?_) (fun (q : ¬ (nI n) ≤ (nI v)) => ?_)
    · exact absurd q (nI_ge (by omega) (by omega))
    · show tkDn tm_66 (17, [some (.inr (.inr (0, 0, 1))), some (.inl (nI n)), some (.inl (nI v)), o], [], (I, tk_so J 0 0 (tk_u1 (J 0 0) 1 r), R)) _
      refine dn_run 2 (show tkDn tm_66 (19, [some (.inr (.inr (0, 0, 1))), some (.inl (nI n)), some (.inl (nI v)), some (.inl 0)], [], (I, tk_so J 0 0 (tk_u1 (J 0 0) 1 r), R)) _ from ?_)
      refine ss_close_0_1_in (d := d) hn (by omega) (fun r2 hr2 => ?_) n 0 r (Nat.zero_add _) hr
      show tkDn tm_66 (37, [some (.inr (.inr (0, 0, 1))), some (.inl (nI n)), some (.inl (nI v)), some (.inl (nI n))], [], (I, tk_so J 0 0 (tk_u1 (J 0 0) 1 r2), R)) _
      refine dn_run 2 (show tkDn tm_66 (39, [some (.inr (.inr (0, 0, 1))), some (.inl (nI n)), some (.inl (nI v)), some (.inl (nI n))], [.inl (nI n), .inr (.inr (0, 0, 1))], (I, tk_so J 0 0 (tk_u1 (J 0 0) 1 r2), R)) _ from ?_)
      refine dn_call rfl rfl rfl rfl rfl (ss_neg_0_1 hn (d := viM d v n n) hr2 ?_)
      show tkDn tm_66 (42, [some (.inr (.inr (0, 0, 1))), some (.inl (nI n)), some (.inl (nI v)), some (.inl (nI n))], [.inl (if negF (viM d v n n) n 0 = true then 1 else 0)], (I, tk_so J 0 0 (tk_u1 (J 0 0) 1 r2), R)) _
      refine dn_if rfl rfl rfl (fun (q2 : (if negF (viM d v n n) n 0 = true then 1 else 0) = 0) => ?_) (fun (q2 : ¬ (if negF (viM d v n n) n 0 = true then 1 else 0) = 0) => ?_)
      · show tkDn tm_66 (47, [some (.inr (.inr (0, 0, 1))), some (.inl (nI n)), some (.inl (nI v)), some (.inl (nI n))], [], (I, tk_so J 0 0 (tk_u1 (J 0 0) 1 r2), R)) _
        have hng : ¬ negF (viM d v n n) n 0 = true := fun z => by rw [if_pos z] at q2; exact absurd q2 (by decide)
        have e : clL n (m + 1) v d = clL n m (v + 1) (viM d v n n) := if_neg hng
        rw [e] at hQ
        refine dn_run 2 (show tkDn tm_66 (12, [some (.inr (.inr (0, 0, 1))), some (.inl (nI n)), some (.inl ((nI v) + 1)), some (.inl (nI n))], [], (I, tk_so J 0 0 (tk_u1 (J 0 0) 1 r2), R)) _ from ?_)
        rw [nI_1]
        exact ih (v + 1) _ r2 _ (by omega) hr2 hQ
      · show tkDn tm_66 (45, [some (.inr (.inr (0, 0, 1))), some (.inl (nI n)), some (.inl (nI v)), some (.inl (nI n))], [], (I, tk_so J 0 0 (tk_u1 (J 0 0) 1 r2), R)) _
        refine dn_run 1 (show tkDn tm_66 (46, [some (.inr (.inr (0, 0, 1))), some (.inl (nI n)), some (.inl (nI v)), some (.inl (nI n))], [.inl 0], (I, tk_so J 0 0 (tk_u1 (J 0 0) 1 r2), R)) _ from ?_)
        refine dn_retb rfl rfl rfl rfl (by decide) ?_
        have hng : negF (viM d v n n) n 0 = true := by by_cases z : negF (viM d v n n) n 0 = true; exact z; exact absurd (if_neg z) q2
        have e : clL n (m + 1) v d = (false, viM d v n n) := if_pos hng
        rw [e] at hQ
        exact hQ r2 hr2
theorem ss_close_0_1 {I : tkI} {J : tkJ} {R : Nat → Nat} {Q : tkQ} {d : tkD} {n : Nat} (hn : n ≤ 16) (hr : RowP 16 (J 0 0 1) d) (hQ : ∀ r, RowP 16 r (clF d n).2 → Q (some (.inl (if (clF d n).1 = true then 1 else 0))) (I, tk_so J 0 0 (tk_u1 (J 0 0) 1 r), R)) : tkDn tm_66 (0, [some (.inr (.inr (0, 0, 1))), some (.inl (nI n)), none, none], [], (I, J, R)) Q := by
  refine dn_run 2 (show tkDn tm_66 (2, [some (.inr (.inr (0, 0, 1))), some (.inl (nI n)), none, none], [.inl (nI n), .inr (.inr (0, 0, 1))], (I, J, R)) _ from ?_)
  refine dn_call rfl rfl rfl rfl rfl (ss_neg_0_1 hn hr ?_)
  show tkDn tm_66 (5, [some (.inr (.inr (0, 0, 1))), some (.inl (nI n)), none, none], [.inl (if negF d n 0 = true then 1 else 0)], (I, J, R)) _
  refine dn_if rfl rfl rfl (fun (q : (if negF d n 0 = true then 1 else 0) = 0) => ?_) (fun (q : ¬ (if negF d n 0 = true then 1 else 0) = 0) => ?_)
  · show tkDn tm_66 (10, [some (.inr (.inr (0, 0, 1))), some (.inl (nI n)), none, none], [], (I, J, R)) _
    have hng : ¬ negF d n 0 = true := fun z => by rw [if_pos z] at q; exact absurd q (by decide)
    have e : clF d n = clL n n 0 d := if_neg hng
    rw [e] at hQ
    refine dn_run 2 (show tkDn tm_66 (12, [some (.inr (.inr (0, 0, 1))), some (.inl (nI n)), some (.inl 0), none], [], (I, J, R)) _ from ?_)
    have := ss_close_0_1_out (J := J) hn n 0 d (J 0 0 1) none (Nat.zero_add _) hr hQ
    rw [jr_id] at this
    exact this
  · show tkDn tm_66 (8, [some (.inr (.inr (0, 0, 1))), some (.inl (nI n)), none, none], [], (I, J, R)) _
    refine dn_run 1 (show tkDn tm_66 (9, [some (.inr (.inr (0, 0, 1))), some (.inl (nI n)), none, none], [.inl 0], (I, J, R)) _ from ?_)
    refine dn_retb rfl rfl rfl rfl (by decide) ?_
    have hng : negF d n 0 = true := by by_cases z : negF d n 0 = true; exact z; exact absurd (if_neg z) q
    have e : clF d n = (false, d) := if_pos hng
    rw [e] at hQ
    have := hQ (J 0 0 1) hr
    rw [jr_id] at this
    exact this
theorem ss_lowerRowVia_4_1_loop {I : tkI} {J : tkJ} {R : Nat → Nat} {Q : tkQ} {d : tkD} {n a k : Nat} {F : Int64} (hn : n ≤ 16) (ha : a < n) (hk : k < n) (hQ : ∀ r, RowP 16 r (rvM d a k F n) → Q none (I, tk_so J 4 0 (tk_u1 (J 4 0) 1 r), R)) : ∀ m c r o, c + m = n → RowP 16 r (rvM d a k F c) → tkDn tm_67 (23, [some (.inr (.inr (4, 0, 1))), some (.inl (nI n)), some (.inl (nI a)), some (.inl (nI k)), some (.inl (nI a * 16)), some (.inl (nI k * 16)), some (.inr (.inl F)), none, some (.inl (nI c)), o, none], [], (I, tk_so J 4 0 (tk_u1 (J 4 0) 1 r), R)) Q := by
  intro m
  induction m with
  | zero =>
    intro c r o hc hr
    show tkDn tm_67 (23, [some (.inr (.inr (4, 0, 1))), some (.inl (nI n)), some (.inl (nI a)), some (.inl (nI k)), some (.inl (nI a * 16)), some (.inl (nI k * 16)), some (.inr (.inl F)), none, some (.inl (nI c)), o, none], [], (I, tk_so J 4 0 (tk_u1 (J 4 0) 1 r), R)) _
    refine dn_run 2 (show tkDn tm_67 (26, [some (.inr (.inr (4, 0, 1))), some (.inl (nI n)), some (.inl (nI a)), some (.inl (nI k)), some (.inl (nI a * 16)), some (.inl (nI k * 16)), some (.inr (.inl F)), none, some (.inl (nI c)), o, none], [.inl (nI n), .inl (nI c)], (I, tk_so J 4 0 (tk_u1 (J 4 0) 1 r), R)) _ from ?_)
    refine dn_if rfl rfl rfl (fun (q : (nI n) ≤ (nI c)) => ?_) (fun (q : ¬ (nI n) ≤ (nI c)) => ?_)
    · show tkDn tm_67 (90, [some (.inr (.inr (4, 0, 1))), some (.inl (nI n)), some (.inl (nI a)), some (.inl (nI k)), some (.inl (nI a * 16)), some (.inl (nI k * 16)), some (.inr (.inl F)), none, some (.inl (nI c)), o, none], [], (I, tk_so J 4 0 (tk_u1 (J 4 0) 1 r), R)) _
      refine dn_ret0 rfl rfl rfl rfl ?_
      rw [show c = n by omega] at hr
      exact hQ r hr
    · exact absurd (nI_le (by omega) (by omega)) q
  | succ m ih =>
    intro c r o hc hr
    show tkDn tm_67 (23, [some (.inr (.inr (4, 0, 1))), some (.inl (nI n)), some (.inl (nI a)), some (.inl (nI k)), some (.inl (nI a * 16)), some (.inl (nI k * 16)), some (.inr (.inl F)), none, some (.inl (nI c)), o, none], [], (I, tk_so J 4 0 (tk_u1 (J 4 0) 1 r), R)) _
    refine dn_run 2 (show tkDn tm_67 (26, [some (.inr (.inr (4, 0, 1))), some (.inl (nI n)), some (.inl (nI a)), some (.inl (nI k)), some (.inl (nI a * 16)), some (.inl (nI k * 16)), some (.inr (.inl F)), none, some (.inl (nI c)), o, none], [.inl (nI n), .inl (nI c)], (I, tk_so J 4 0 (tk_u1 (J 4 0) 1 r), R)) _ from ?_)
    refine dn_if rfl rfl rfl (fun (q : (nI n) ≤ (nI c)) => ?_) (fun (q : ¬ (nI n) ≤ (nI c)) => ?_)
    · exact absurd q (nI_ge (by omega) (by omega))
    · show tkDn tm_67 (29, [some (.inr (.inr (4, 0, 1))), some (.inl (nI n)), some (.inl (nI a)), some (.inl (nI k)), some (.inl (nI a * 16)), some (.inl (nI k * 16)), some (.inr (.inl F)), none, some (.inl (nI c)), o, none], [], (I, tk_so J 4 0 (tk_u1 (J 4 0) 1 r), R)) _
      refine dn_run 6 (show (vp_in ((nI k * 16) + (nI c)) 256) ∧ tkDn tm_67 (38, [some (.inr (.inr (4, 0, 1))), some (.inl (nI n)), some (.inl (nI a)), some (.inl (nI k)), some (.inl (nI a * 16)), some (.inl (nI k * 16)), some (.inr (.inl F)), none, some (.inl (nI c)), some (.inr (.inl (r (((nI k * 16) + (nI c)).toNatClampNeg)))), none], [], (I, tk_so J 4 0 (tk_u1 (J 4 0) 1 r), R)) _ from ⟨by rw [ix16]; exact vp_in_nI (by omega) (by omega), ?_⟩)
      rw [ix16, hr.at (by omega) (by omega) (by omega)]
      show tkDn tm_67 (38, [some (.inr (.inr (4, 0, 1))), some (.inl (nI n)), some (.inl (nI a)), some (.inl (nI k)), some (.inl (nI a * 16)), some (.inl (nI k * 16)), some (.inr (.inl F)), none, some (.inl (nI c)), some (.inr (.inl (rvM d a k F c k c))), none], [], (I, tk_so J 4 0 (tk_u1 (J 4 0) 1 r), R)) _
      refine dn_run 3 (show tkDn tm_67 (44, [some (.inr (.inr (4, 0, 1))), some (.inl (nI n)), some (.inl (nI a)), some (.inl (nI k)), some (.inl (nI a * 16)), some (.inl (nI k * 16)), some (.inr (.inl F)), none, some (.inl (nI c)), some (.inr (.inl (rvM d a k F c k c))), none], [.inl (lg_cmp F 4611686018427387904)], (I, tk_so J 4 0 (tk_u1 (J 4 0) 1 r), R)) _ from ?_)
      refine dn_if rfl rfl rfl (fun (q1 : (lg_cmp F 4611686018427387904) = 0) => ?_) (fun (q1 : ¬ (lg_cmp F 4611686018427387904) = 0) => ?_)
      · show tkDn tm_67 (84, [some (.inr (.inr (4, 0, 1))), some (.inl (nI n)), some (.inl (nI a)), some (.inl (nI k)), some (.inl (nI a * 16)), some (.inl (nI k * 16)), some (.inr (.inl F)), none, some (.inl (nI c)), some (.inr (.inl (rvM d a k F c k c))), none], [], (I, tk_so J 4 0 (tk_u1 (J 4 0) 1 r), R)) _
        refine dn_run 2 (show tkDn tm_67 (23, [some (.inr (.inr (4, 0, 1))), some (.inl (nI n)), some (.inl (nI a)), some (.inl (nI k)), some (.inl (nI a * 16)), some (.inl (nI k * 16)), some (.inr (.inl F)), none, some (.inl ((nI c) + 1)), some (.inr (.inl (rvM d a k F c k c))), none], [], (I, tk_so J 4 0 (tk_u1 (J 4 0) 1 r), R)) _ from ?_)
        rw [nI_1]
        exact ih (c + 1) r _ (by omega) (by rw [show rvM d a k F (c + 1) = rvM d a k F c from if_neg (fun z => z.1 ((lg_cmp_eq _ _).mp q1))]; exact hr)
      · show tkDn tm_67 (47, [some (.inr (.inr (4, 0, 1))), some (.inl (nI n)), some (.inl (nI a)), some (.inl (nI k)), some (.inl (nI a * 16)), some (.inl (nI k * 16)), some (.inr (.inl F)), none, some (.inl (nI c)), some (.inr (.inl (rvM d a k F c k c))), none], [], (I, tk_so J 4 0 (tk_u1 (J 4 0) 1 r), R)) _
        refine dn_run 3 (show tkDn tm_67 (53, [some (.inr (.inr (4, 0, 1))), some (.inl (nI n)), some (.inl (nI a)), some (.inl (nI k)), some (.inl (nI a * 16)), some (.inl (nI k * 16)), some (.inr (.inl F)), none, some (.inl (nI c)), some (.inr (.inl (rvM d a k F c k c))), none], [.inl (lg_cmp (rvM d a k F c k c) 4611686018427387904)], (I, tk_so J 4 0 (tk_u1 (J 4 0) 1 r), R)) _ from ?_)
        refine dn_if rfl rfl rfl (fun (q2 : (lg_cmp (rvM d a k F c k c) 4611686018427387904) = 0) => ?_) (fun (q2 : ¬ (lg_cmp (rvM d a k F c k c) 4611686018427387904) = 0) => ?_)
        · show tkDn tm_67 (84, [some (.inr (.inr (4, 0, 1))), some (.inl (nI n)), some (.inl (nI a)), some (.inl (nI k)), some (.inl (nI a * 16)), some (.inl (nI k * 16)), some (.inr (.inl F)), none, some (.inl (nI c)), some (.inr (.inl (rvM d a k F c k c))), none], [], (I, tk_so J 4 0 (tk_u1 (J 4 0) 1 r), R)) _
          refine dn_run 2 (show tkDn tm_67 (23, [some (.inr (.inr (4, 0, 1))), some (.inl (nI n)), some (.inl (nI a)), some (.inl (nI k)), some (.inl (nI a * 16)), some (.inl (nI k * 16)), some (.inr (.inl F)), none, some (.inl ((nI c) + 1)), some (.inr (.inl (rvM d a k F c k c))), none], [], (I, tk_so J 4 0 (tk_u1 (J 4 0) 1 r), R)) _ from ?_)
          rw [nI_1]
          exact ih (c + 1) r _ (by omega) (by rw [show rvM d a k F (c + 1) = rvM d a k F c from if_neg (fun z => z.2.1 ((lg_cmp_eq _ _).mp q2))]; exact hr)
        · show tkDn tm_67 (56, [some (.inr (.inr (4, 0, 1))), some (.inl (nI n)), some (.inl (nI a)), some (.inl (nI k)), some (.inl (nI a * 16)), some (.inl (nI k * 16)), some (.inr (.inl F)), none, some (.inl (nI c)), some (.inr (.inl (rvM d a k F c k c))), none], [], (I, tk_so J 4 0 (tk_u1 (J 4 0) 1 r), R)) _
          refine dn_run 9 (show (vp_in ((nI a * 16) + (nI c)) 256) ∧ tkDn tm_67 (69, [some (.inr (.inr (4, 0, 1))), some (.inl (nI n)), some (.inl (nI a)), some (.inl (nI k)), some (.inl (nI a * 16)), some (.inl (nI k * 16)), some (.inr (.inl F)), none, some (.inl (nI c)), some (.inr (.inl (rvM d a k F c k c))), none], [.inl (lg_cmp (F + (rvM d a k F c k c)) (r (((nI a * 16) + (nI c)).toNatClampNeg)))], (I, tk_so J 4 0 (tk_u1 (J 4 0) 1 r), R)) _ from ⟨by rw [ix16]; exact vp_in_nI (by omega) (by omega), ?_⟩)
          rw [ix16, hr.at (by omega) (by omega) (by omega)]
          refine dn_if rfl rfl rfl (fun (q3 : 0 ≤ (lg_cmp (F + rvM d a k F c k c) (rvM d a k F c a c))) => ?_) (fun (q3 : ¬ 0 ≤ (lg_cmp (F + rvM d a k F c k c) (rvM d a k F c a c))) => ?_)
          · show tkDn tm_67 (84, [some (.inr (.inr (4, 0, 1))), some (.inl (nI n)), some (.inl (nI a)), some (.inl (nI k)), some (.inl (nI a * 16)), some (.inl (nI k * 16)), some (.inr (.inl F)), none, some (.inl (nI c)), some (.inr (.inl (rvM d a k F c k c))), none], [], (I, tk_so J 4 0 (tk_u1 (J 4 0) 1 r), R)) _
            refine dn_run 2 (show tkDn tm_67 (23, [some (.inr (.inr (4, 0, 1))), some (.inl (nI n)), some (.inl (nI a)), some (.inl (nI k)), some (.inl (nI a * 16)), some (.inl (nI k * 16)), some (.inr (.inl F)), none, some (.inl ((nI c) + 1)), some (.inr (.inl (rvM d a k F c k c))), none], [], (I, tk_so J 4 0 (tk_u1 (J 4 0) 1 r), R)) _ from ?_)
            rw [nI_1]
            exact ih (c + 1) r _ (by omega) (by rw [show rvM d a k F (c + 1) = rvM d a k F c from if_neg (fun z => absurd z.2.2 (Int64.not_lt.mpr ((lg_cmp_ge _ _).mp q3)))]; exact hr)
          · show tkDn tm_67 (72, [some (.inr (.inr (4, 0, 1))), some (.inl (nI n)), some (.inl (nI a)), some (.inl (nI k)), some (.inl (nI a * 16)), some (.inl (nI k * 16)), some (.inr (.inl F)), none, some (.inl (nI c)), some (.inr (.inl (rvM d a k F c k c))), none], [], (I, tk_so J 4 0 (tk_u1 (J 4 0) 1 r), R)) _
            have q3 := Int64.not_le.mp (fun t => q3 ((lg_cmp_ge _ _).mpr t))
            refine dn_run 10 (show (vp_in ((nI a * 16) + (nI c)) 256) ∧ tkDn tm_67 (23, [some (.inr (.inr (4, 0, 1))), some (.inl (nI n)), some (.inl (nI a)), some (.inl (nI k)), some (.inl (nI a * 16)), some (.inl (nI k * 16)), some (.inr (.inl F)), none, some (.inl ((nI c) + 1)), some (.inr (.inl (rvM d a k F c k c))), none], [], (I, tk_so (tk_so J 4 0 (tk_u1 (J 4 0) 1 r)) 4 0 (tk_u2 (tk_u1 (J 4 0) 1 r) 1 (((nI a * 16) + (nI c)).toNatClampNeg) (F + (rvM d a k F c k c))), R)) _ from ⟨by rw [ix16]; exact vp_in_nI (by omega) (by omega), ?_⟩)
            rw [tk_so_so]
            rw [tk_u2_u1, ix16, nI_clamp (show 16 * a + c < 2 ^ 31 by omega), nI_1]
            exact ih (c + 1) _ _ (by omega) (by rw [show rvM d a k F (c + 1) = upM (rvM d a k F c) a c (F + rvM d a k F c k c) from if_pos ⟨fun z => q1 ((lg_cmp_eq _ _).mpr z), fun z => q2 ((lg_cmp_eq _ _).mpr z), q3⟩]; exact hr.put (by omega) (by omega))
theorem ss_lowerRowVia_4_1 {I : tkI} {J : tkJ} {R : Nat → Nat} {Q : tkQ} {d : tkD} {n a k : Nat} (hn : n ≤ 16) (ha : a < n) (hk : k < n) (hr : RowP 16 (J 4 0 1) d) (hQ : ∀ r, RowP 16 r (rvM d a k (d a k) n) → Q none (I, tk_so J 4 0 (tk_u1 (J 4 0) 1 r), R)) : tkDn tm_67 (0, [some (.inr (.inr (4, 0, 1))), some (.inl (nI n)), some (.inl (nI a)), some (.inl (nI k)), none, none, none, none, none, none, none], [], (I, J, R)) Q := by
  refine dn_run 14 (show (vp_in (((nI a) * 16) + (nI k)) 256) ∧ tkDn tm_67 (20, [some (.inr (.inr (4, 0, 1))), some (.inl (nI n)), some (.inl (nI a)), some (.inl (nI k)), some (.inl ((nI a) * 16)), some (.inl ((nI k) * 16)), some (.inr (.inl (J 4 0 1 ((((nI a) * 16) + (nI k)).toNatClampNeg)))), none, none, none, none], [], (I, J, R)) _ from ⟨by rw [ix16]; exact vp_in_nI (by omega) (by omega), ?_⟩)
  rw [ix16, hr.at (by omega) (by omega) (by omega)]
  show tkDn tm_67 (20, [some (.inr (.inr (4, 0, 1))), some (.inl (nI n)), some (.inl (nI a)), some (.inl (nI k)), some (.inl ((nI a) * 16)), some (.inl ((nI k) * 16)), some (.inr (.inl (d a k))), none, none, none, none], [], (I, J, R)) _
  refine dn_run 2 (show tkDn tm_67 (23, [some (.inr (.inr (4, 0, 1))), some (.inl (nI n)), some (.inl (nI a)), some (.inl (nI k)), some (.inl ((nI a) * 16)), some (.inl ((nI k) * 16)), some (.inr (.inl (d a k))), none, some (.inl 0), none, none], [], (I, J, R)) _ from ?_)
  have := ss_lowerRowVia_4_1_loop (J := J) hn ha hk hQ n 0 (J 4 0 1) none (Nat.zero_add _) hr
  rw [jr_id] at this
  exact this
theorem ss_neg_4_1_loop {I : tkI} {J : tkJ} {R : Nat → Nat} {Q : tkQ} {d : tkD} {n : Nat} (hn : n ≤ 16) (hr : RowP 16 (J 4 0 1) d) : ∀ m c, c + m = n → Q (some (.inl (if negF d m c = true then 1 else 0))) (I, J, R) → tkDn tm_68 (2, [some (.inr (.inr (4, 0, 1))), some (.inl (nI n)), some (.inl (nI c))], [], (I, J, R)) Q := by
  intro m
  induction m with
  | zero =>
    intro c hc hQ
    show tkDn tm_68 (2, [some (.inr (.inr (4, 0, 1))), some (.inl (nI n)), some (.inl (nI c))], [], (I, J, R)) _
    refine dn_run 2 (show tkDn tm_68 (4, [some (.inr (.inr (4, 0, 1))), some (.inl (nI n)), some (.inl (nI c))], [.inl (nI n), .inl (nI c)], (I, J, R)) _ from ?_)
    refine dn_if rfl rfl rfl (fun (q : (nI n) ≤ (nI c)) => ?_) (fun (q : ¬ (nI n) ≤ (nI c)) => ?_)
    · show tkDn tm_68 (28, [some (.inr (.inr (4, 0, 1))), some (.inl (nI n)), some (.inl (nI c))], [], (I, J, R)) _
      refine dn_run 1 (show tkDn tm_68 (29, [some (.inr (.inr (4, 0, 1))), some (.inl (nI n)), some (.inl (nI c))], [.inl 0], (I, J, R)) _ from ?_)
      refine dn_retb rfl rfl rfl rfl (by decide) ?_
      exact hQ
    · exact absurd (nI_le (by omega) (by omega)) q
  | succ m ih =>
    intro c hc hQ
    show tkDn tm_68 (2, [some (.inr (.inr (4, 0, 1))), some (.inl (nI n)), some (.inl (nI c))], [], (I, J, R)) _
    refine dn_run 2 (show tkDn tm_68 (4, [some (.inr (.inr (4, 0, 1))), some (.inl (nI n)), some (.inl (nI c))], [.inl (nI n), .inl (nI c)], (I, J, R)) _ from ?_)
    refine dn_if rfl rfl rfl (fun (q : (nI n) ≤ (nI c)) => ?_) (fun (q : ¬ (nI n) ≤ (nI c)) => ?_)
    · exact absurd q (nI_ge (by omega) (by omega))
    · show tkDn tm_68 (7, [some (.inr (.inr (4, 0, 1))), some (.inl (nI n)), some (.inl (nI c))], [], (I, J, R)) _
      refine dn_run 9 (show (vp_in (((nI c) * 16) + (nI c)) 256) ∧ tkDn tm_68 (17, [some (.inr (.inr (4, 0, 1))), some (.inl (nI n)), some (.inl (nI c))], [.inl (lg_cmp (J 4 0 1 ((((nI c) * 16) + (nI c)).toNatClampNeg)) 0)], (I, J, R)) _ from ⟨by rw [ix16]; exact vp_in_nI (by omega) (by omega), ?_⟩)
      rw [ix16, hr.at (by omega) (by omega) (by omega)]
      refine dn_if rfl rfl rfl (fun (q2 : 0 ≤ (lg_cmp (d c c) 0)) => ?_) (fun (q2 : ¬ 0 ≤ (lg_cmp (d c c) 0)) => ?_)
      · show tkDn tm_68 (22, [some (.inr (.inr (4, 0, 1))), some (.inl (nI n)), some (.inl (nI c))], [], (I, J, R)) _
        refine dn_run 2 (show tkDn tm_68 (2, [some (.inr (.inr (4, 0, 1))), some (.inl (nI n)), some (.inl ((nI c) + 1))], [], (I, J, R)) _ from ?_)
        rw [nI_1]
        rw [show negF d (m + 1) c = negF d m (c + 1) from if_neg (Int64.not_lt.mpr ((lg_cmp_ge _ _).mp q2))] at hQ
        exact ih (c + 1) (by omega) hQ
      · show tkDn tm_68 (20, [some (.inr (.inr (4, 0, 1))), some (.inl (nI n)), some (.inl (nI c))], [], (I, J, R)) _
        refine dn_run 1 (show tkDn tm_68 (21, [some (.inr (.inr (4, 0, 1))), some (.inl (nI n)), some (.inl (nI c))], [.inl 1], (I, J, R)) _ from ?_)
        refine dn_retb rfl rfl rfl rfl (by decide) ?_
        rw [show negF d (m + 1) c = true from if_pos (Int64.not_le.mp (fun t => q2 ((lg_cmp_ge _ _).mpr t)))] at hQ
        exact hQ
theorem ss_neg_4_1 {I : tkI} {J : tkJ} {R : Nat → Nat} {Q : tkQ} {d : tkD} {n : Nat} (hn : n ≤ 16) (hr : RowP 16 (J 4 0 1) d) (hQ : Q (some (.inl (if negF d n 0 = true then 1 else 0))) (I, J, R)) : tkDn tm_68 (0, [some (.inr (.inr (4, 0, 1))), some (.inl (nI n)), none], [], (I, J, R)) Q := by
  refine dn_run 2 (show tkDn tm_68 (2, [some (.inr (.inr (4, 0, 1))), some (.inl (nI n)), some (.inl 0)], [], (I, J, R)) _ from ?_)
  exact ss_neg_4_1_loop hn hr n 0 (Nat.zero_add _) hQ
theorem ss_close_4_1_in {I : tkI} {J : tkJ} {R : Nat → Nat} {Q : tkQ} {d : tkD} {n v : Nat} (hn : n ≤ 16) (hv : v < n) (hK : ∀ r, RowP 16 r (viM d v n n) → tkDn tm_66 (37, [some (.inr (.inr (4, 0, 1))), some (.inl (nI n)), some (.inl (nI v)), some (.inl (nI n))], [], (I, tk_so J 4 0 (tk_u1 (J 4 0) 1 r), R)) Q) : ∀ m a r, a + m = n → RowP 16 r (viM d v n a) → tkDn tm_66 (19, [some (.inr (.inr (4, 0, 1))), some (.inl (nI n)), some (.inl (nI v)), some (.inl (nI a))], [], (I, tk_so J 4 0 (tk_u1 (J 4 0) 1 r), R)) Q := by
  intro m
  induction m with
  | zero =>
    intro a r ha hr
    have ha : a = n := by omega
    subst ha
    show tkDn tm_66 (19, [some (.inr (.inr (4, 0, 1))), some (.inl (nI a)), some (.inl (nI v)), some (.inl (nI a))], [], (I, tk_so J 4 0 (tk_u1 (J 4 0) 1 r), R)) _
    refine dn_run 2 (show tkDn tm_66 (21, [some (.inr (.inr (4, 0, 1))), some (.inl (nI a)), some (.inl (nI v)), some (.inl (nI a))], [.inl (nI a), .inl (nI a)], (I, tk_so J 4 0 (tk_u1 (J 4 0) 1 r), R)) _ from ?_)
    refine dn_if rfl rfl rfl (fun (q : (nI a) ≤ (nI a)) => ?_) (fun (q : ¬ (nI a) ≤ (nI a)) => ?_)
    · show tkDn tm_66 (37, [some (.inr (.inr (4, 0, 1))), some (.inl (nI a)), some (.inl (nI v)), some (.inl (nI a))], [], (I, tk_so J 4 0 (tk_u1 (J 4 0) 1 r), R)) _
      exact hK r hr
    · exact absurd (nI_le (by omega) (by omega)) q
  | succ m ih =>
    intro a r ha hr
    show tkDn tm_66 (19, [some (.inr (.inr (4, 0, 1))), some (.inl (nI n)), some (.inl (nI v)), some (.inl (nI a))], [], (I, tk_so J 4 0 (tk_u1 (J 4 0) 1 r), R)) _
    refine dn_run 2 (show tkDn tm_66 (21, [some (.inr (.inr (4, 0, 1))), some (.inl (nI n)), some (.inl (nI v)), some (.inl (nI a))], [.inl (nI n), .inl (nI a)], (I, tk_so J 4 0 (tk_u1 (J 4 0) 1 r), R)) _ from ?_)
    refine dn_if rfl rfl rfl (fun (q : (nI n) ≤ (nI a)) => ?_) (fun (q : ¬ (nI n) ≤ (nI a)) => ?_)
    · exact absurd q (nI_ge (by omega) (by omega))
    · show tkDn tm_66 (24, [some (.inr (.inr (4, 0, 1))), some (.inl (nI n)), some (.inl (nI v)), some (.inl (nI a))], [], (I, tk_so J 4 0 (tk_u1 (J 4 0) 1 r), R)) _
      refine dn_run 4 (show tkDn tm_66 (28, [some (.inr (.inr (4, 0, 1))), some (.inl (nI n)), some (.inl (nI v)), some (.inl (nI a))], [.inl (nI v), .inl (nI a), .inl (nI n), .inr (.inr (4, 0, 1))], (I, tk_so J 4 0 (tk_u1 (J 4 0) 1 r), R)) _ from ?_)
      refine dn_call rfl rfl rfl rfl rfl (ss_lowerRowVia_4_1 (d := viM d v n a) hn (by omega) hv hr (fun r2 hr2 => ?_))
      rw [tk_so_so, tk_so_same, tk_u1_u1]
      show tkDn tm_66 (31, [some (.inr (.inr (4, 0, 1))), some (.inl (nI n)), some (.inl (nI v)), some (.inl (nI a))], [], (I, tk_so J 4 0 (tk_u1 (J 4 0) 1 r2), R)) _
      refine dn_run 2 (show tkDn tm_66 (19, [some (.inr (.inr (4, 0, 1))), some (.inl (nI n)), some (.inl (nI v)), some (.inl ((nI a) + 1))], [], (I, tk_so J 4 0 (tk_u1 (J 4 0) 1 r2), R)) _ from ?_)
      rw [nI_1]
      exact ih (a + 1) r2 (by omega) hr2
theorem ss_close_4_1_out {I : tkI} {J : tkJ} {R : Nat → Nat} {Q : tkQ} {n : Nat} (hn : n ≤ 16) : ∀ m v d r o, v + m = n → RowP 16 r d → (∀ r, RowP 16 r (clL n m v d).2 → Q (some (.inl (if (clL n m v d).1 = true then 1 else 0))) (I, tk_so J 4 0 (tk_u1 (J 4 0) 1 r), R)) → tkDn tm_66 (12, [some (.inr (.inr (4, 0, 1))), some (.inl (nI n)), some (.inl (nI v)), o], [], (I, tk_so J 4 0 (tk_u1 (J 4 0) 1 r), R)) Q := by
  intro m
  induction m with
  | zero =>
    intro v d r o hv hr hQ
    show tkDn tm_66 (12, [some (.inr (.inr (4, 0, 1))), some (.inl (nI n)), some (.inl (nI v)), o], [], (I, tk_so J 4 0 (tk_u1 (J 4 0) 1 r), R)) _
    refine dn_run 2 (show tkDn tm_66 (14, [some (.inr (.inr (4, 0, 1))), some (.inl (nI n)), some (.inl (nI v)), o], [.inl (nI n), .inl (nI v)], (I, tk_so J 4 0 (tk_u1 (J 4 0) 1 r), R)) _ from ?_)
    refine dn_if rfl rfl rfl (fun (q : (nI n) ≤ (nI v)) => ?_) (fun (q : ¬ (nI n) ≤ (nI v)) => ?_)
    · show tkDn tm_66 (53, [some (.inr (.inr (4, 0, 1))), some (.inl (nI n)), some (.inl (nI v)), o], [], (I, tk_so J 4 0 (tk_u1 (J 4 0) 1 r), R)) _
      refine dn_run 1 (show tkDn tm_66 (54, [some (.inr (.inr (4, 0, 1))), some (.inl (nI n)), some (.inl (nI v)), o], [.inl 1], (I, tk_so J 4 0 (tk_u1 (J 4 0) 1 r), R)) _ from ?_)
      refine dn_retb rfl rfl rfl rfl (by decide) ?_
      exact hQ r hr
    · exact absurd (nI_le (by omega) (by omega)) q
  | succ m ih =>
    intro v d r o hv hr hQ
    show tkDn tm_66 (12, [some (.inr (.inr (4, 0, 1))), some (.inl (nI n)), some (.inl (nI v)), o], [], (I, tk_so J 4 0 (tk_u1 (J 4 0) 1 r), R)) _
    refine dn_run 2 (show tkDn tm_66 (14, [some (.inr (.inr (4, 0, 1))), some (.inl (nI n)), some (.inl (nI v)), o], [.inl (nI n), .inl (nI v)], (I, tk_so J 4 0 (tk_u1 (J 4 0) 1 r), R)) _ from ?_)
    refine dn_if rfl rfl rfl (fun (q : (nI n) ≤ (nI v)) => ?_) (fun (q : ¬ (nI n) ≤ (nI v)) => ?_)
    · exact absurd q (nI_ge (by omega) (by omega))
    · show tkDn tm_66 (17, [some (.inr (.inr (4, 0, 1))), some (.inl (nI n)), some (.inl (nI v)), o], [], (I, tk_so J 4 0 (tk_u1 (J 4 0) 1 r), R)) _
      refine dn_run 2 (show tkDn tm_66 (19, [some (.inr (.inr (4, 0, 1))), some (.inl (nI n)), some (.inl (nI v)), some (.inl 0)], [], (I, tk_so J 4 0 (tk_u1 (J 4 0) 1 r), R)) _ from ?_)
      refine ss_close_4_1_in (d := d) hn (by omega) (fun r2 hr2 => ?_) n 0 r (Nat.zero_add _) hr
      show tkDn tm_66 (37, [some (.inr (.inr (4, 0, 1))), some (.inl (nI n)), some (.inl (nI v)), some (.inl (nI n))], [], (I, tk_so J 4 0 (tk_u1 (J 4 0) 1 r2), R)) _
      refine dn_run 2 (show tkDn tm_66 (39, [some (.inr (.inr (4, 0, 1))), some (.inl (nI n)), some (.inl (nI v)), some (.inl (nI n))], [.inl (nI n), .inr (.inr (4, 0, 1))], (I, tk_so J 4 0 (tk_u1 (J 4 0) 1 r2), R)) _ from ?_)
      refine dn_call rfl rfl rfl rfl rfl (ss_neg_4_1 hn (d := viM d v n n) hr2 ?_)
      show tkDn tm_66 (42, [some (.inr (.inr (4, 0, 1))), some (.inl (nI n)), some (.inl (nI v)), some (.inl (nI n))], [.inl (if negF (viM d v n n) n 0 = true then 1 else 0)], (I, tk_so J 4 0 (tk_u1 (J 4 0) 1 r2), R)) _
      refine dn_if rfl rfl rfl (fun (q2 : (if negF (viM d v n n) n 0 = true then 1 else 0) = 0) => ?_) (fun (q2 : ¬ (if negF (viM d v n n) n 0 = true then 1 else 0) = 0) => ?_)
      · show tkDn tm_66 (47, [some (.inr (.inr (4, 0, 1))), some (.inl (nI n)), some (.inl (nI v)), some (.inl (nI n))], [], (I, tk_so J 4 0 (tk_u1 (J 4 0) 1 r2), R)) _
        have hng : ¬ negF (viM d v n n) n 0 = true := fun z => by rw [if_pos z] at q2; exact absurd q2 (by decide)
        have e : clL n (m + 1) v d = clL n m (v + 1) (viM d v n n) := if_neg hng
        rw [e] at hQ
        refine dn_run 2 (show tkDn tm_66 (12, [some (.inr (.inr (4, 0, 1))), some (.inl (nI n)), some (.inl ((nI v) + 1)), some (.inl (nI n))], [], (I, tk_so J 4 0 (tk_u1 (J 4 0) 1 r2), R)) _ from ?_)
        rw [nI_1]
        exact ih (v + 1) _ r2 _ (by omega) hr2 hQ
      · show tkDn tm_66 (45, [some (.inr (.inr (4, 0, 1))), some (.inl (nI n)), some (.inl (nI v)), some (.inl (nI n))], [], (I, tk_so J 4 0 (tk_u1 (J 4 0) 1 r2), R)) _
        refine dn_run 1 (show tkDn tm_66 (46, [some (.inr (.inr (4, 0, 1))), some (.inl (nI n)), some (.inl (nI v)), some (.inl (nI n))], [.inl 0], (I, tk_so J 4 0 (tk_u1 (J 4 0) 1 r2), R)) _ from ?_)
        refine dn_retb rfl rfl rfl rfl (by decide) ?_
        have hng : negF (viM d v n n) n 0 = true := by by_cases z : negF (viM d v n n) n 0 = true; exact z; exact absurd (if_neg z) q2
        have e : clL n (m + 1) v d = (false, viM d v n n) := if_pos hng
        rw [e] at hQ
        exact hQ r2 hr2
theorem ss_close_4_1 {I : tkI} {J : tkJ} {R : Nat → Nat} {Q : tkQ} {d : tkD} {n : Nat} (hn : n ≤ 16) (hr : RowP 16 (J 4 0 1) d) (hQ : ∀ r, RowP 16 r (clF d n).2 → Q (some (.inl (if (clF d n).1 = true then 1 else 0))) (I, tk_so J 4 0 (tk_u1 (J 4 0) 1 r), R)) : tkDn tm_66 (0, [some (.inr (.inr (4, 0, 1))), some (.inl (nI n)), none, none], [], (I, J, R)) Q := by
  refine dn_run 2 (show tkDn tm_66 (2, [some (.inr (.inr (4, 0, 1))), some (.inl (nI n)), none, none], [.inl (nI n), .inr (.inr (4, 0, 1))], (I, J, R)) _ from ?_)
  refine dn_call rfl rfl rfl rfl rfl (ss_neg_4_1 hn hr ?_)
  show tkDn tm_66 (5, [some (.inr (.inr (4, 0, 1))), some (.inl (nI n)), none, none], [.inl (if negF d n 0 = true then 1 else 0)], (I, J, R)) _
  refine dn_if rfl rfl rfl (fun (q : (if negF d n 0 = true then 1 else 0) = 0) => ?_) (fun (q : ¬ (if negF d n 0 = true then 1 else 0) = 0) => ?_)
  · show tkDn tm_66 (10, [some (.inr (.inr (4, 0, 1))), some (.inl (nI n)), none, none], [], (I, J, R)) _
    have hng : ¬ negF d n 0 = true := fun z => by rw [if_pos z] at q; exact absurd q (by decide)
    have e : clF d n = clL n n 0 d := if_neg hng
    rw [e] at hQ
    refine dn_run 2 (show tkDn tm_66 (12, [some (.inr (.inr (4, 0, 1))), some (.inl (nI n)), some (.inl 0), none], [], (I, J, R)) _ from ?_)
    have := ss_close_4_1_out (J := J) hn n 0 d (J 4 0 1) none (Nat.zero_add _) hr hQ
    rw [jr_id] at this
    exact this
  · show tkDn tm_66 (8, [some (.inr (.inr (4, 0, 1))), some (.inl (nI n)), none, none], [], (I, J, R)) _
    refine dn_run 1 (show tkDn tm_66 (9, [some (.inr (.inr (4, 0, 1))), some (.inl (nI n)), none, none], [.inl 0], (I, J, R)) _ from ?_)
    refine dn_retb rfl rfl rfl rfl (by decide) ?_
    have hng : negF d n 0 = true := by by_cases z : negF d n 0 = true; exact z; exact absurd (if_neg z) q
    have e : clF d n = (false, d) := if_pos hng
    rw [e] at hQ
    have := hQ (J 4 0 1) hr
    rw [jr_id] at this
    exact this
theorem ss_lowerRowVia_4_3_loop {I : tkI} {J : tkJ} {R : Nat → Nat} {Q : tkQ} {d : tkD} {n a k : Nat} {F : Int64} (hn : n ≤ 16) (ha : a < n) (hk : k < n) (hQ : ∀ r, RowP 16 r (rvM d a k F n) → Q none (I, tk_so J 4 0 (tk_u1 (J 4 0) 3 r), R)) : ∀ m c r o, c + m = n → RowP 16 r (rvM d a k F c) → tkDn tm_67 (23, [some (.inr (.inr (4, 0, 3))), some (.inl (nI n)), some (.inl (nI a)), some (.inl (nI k)), some (.inl (nI a * 16)), some (.inl (nI k * 16)), some (.inr (.inl F)), none, some (.inl (nI c)), o, none], [], (I, tk_so J 4 0 (tk_u1 (J 4 0) 3 r), R)) Q := by
  intro m
  induction m with
  | zero =>
    intro c r o hc hr
    show tkDn tm_67 (23, [some (.inr (.inr (4, 0, 3))), some (.inl (nI n)), some (.inl (nI a)), some (.inl (nI k)), some (.inl (nI a * 16)), some (.inl (nI k * 16)), some (.inr (.inl F)), none, some (.inl (nI c)), o, none], [], (I, tk_so J 4 0 (tk_u1 (J 4 0) 3 r), R)) _
    refine dn_run 2 (show tkDn tm_67 (26, [some (.inr (.inr (4, 0, 3))), some (.inl (nI n)), some (.inl (nI a)), some (.inl (nI k)), some (.inl (nI a * 16)), some (.inl (nI k * 16)), some (.inr (.inl F)), none, some (.inl (nI c)), o, none], [.inl (nI n), .inl (nI c)], (I, tk_so J 4 0 (tk_u1 (J 4 0) 3 r), R)) _ from ?_)
    refine dn_if rfl rfl rfl (fun (q : (nI n) ≤ (nI c)) => ?_) (fun (q : ¬ (nI n) ≤ (nI c)) => ?_)
    · show tkDn tm_67 (90, [some (.inr (.inr (4, 0, 3))), some (.inl (nI n)), some (.inl (nI a)), some (.inl (nI k)), some (.inl (nI a * 16)), some (.inl (nI k * 16)), some (.inr (.inl F)), none, some (.inl (nI c)), o, none], [], (I, tk_so J 4 0 (tk_u1 (J 4 0) 3 r), R)) _
      refine dn_ret0 rfl rfl rfl rfl ?_
      rw [show c = n by omega] at hr
      exact hQ r hr
    · exact absurd (nI_le (by omega) (by omega)) q
  | succ m ih =>
    intro c r o hc hr
    show tkDn tm_67 (23, [some (.inr (.inr (4, 0, 3))), some (.inl (nI n)), some (.inl (nI a)), some (.inl (nI k)), some (.inl (nI a * 16)), some (.inl (nI k * 16)), some (.inr (.inl F)), none, some (.inl (nI c)), o, none], [], (I, tk_so J 4 0 (tk_u1 (J 4 0) 3 r), R)) _
    refine dn_run 2 (show tkDn tm_67 (26, [some (.inr (.inr (4, 0, 3))), some (.inl (nI n)), some (.inl (nI a)), some (.inl (nI k)), some (.inl (nI a * 16)), some (.inl (nI k * 16)), some (.inr (.inl F)), none, some (.inl (nI c)), o, none], [.inl (nI n), .inl (nI c)], (I, tk_so J 4 0 (tk_u1 (J 4 0) 3 r), R)) _ from ?_)
    refine dn_if rfl rfl rfl (fun (q : (nI n) ≤ (nI c)) => ?_) (fun (q : ¬ (nI n) ≤ (nI c)) => ?_)
    · exact absurd q (nI_ge (by omega) (by omega))
    · show tkDn tm_67 (29, [some (.inr (.inr (4, 0, 3))), some (.inl (nI n)), some (.inl (nI a)), some (.inl (nI k)), some (.inl (nI a * 16)), some (.inl (nI k * 16)), some (.inr (.inl F)), none, some (.inl (nI c)), o, none], [], (I, tk_so J 4 0 (tk_u1 (J 4 0) 3 r), R)) _
      refine dn_run 6 (show (vp_in ((nI k * 16) + (nI c)) 256) ∧ tkDn tm_67 (38, [some (.inr (.inr (4, 0, 3))), some (.inl (nI n)), some (.inl (nI a)), some (.inl (nI k)), some (.inl (nI a * 16)), some (.inl (nI k * 16)), some (.inr (.inl F)), none, some (.inl (nI c)), some (.inr (.inl (r (((nI k * 16) + (nI c)).toNatClampNeg)))), none], [], (I, tk_so J 4 0 (tk_u1 (J 4 0) 3 r), R)) _ from ⟨by rw [ix16]; exact vp_in_nI (by omega) (by omega), ?_⟩)
      rw [ix16, hr.at (by omega) (by omega) (by omega)]
      show tkDn tm_67 (38, [some (.inr (.inr (4, 0, 3))), some (.inl (nI n)), some (.inl (nI a)), some (.inl (nI k)), some (.inl (nI a * 16)), some (.inl (nI k * 16)), some (.inr (.inl F)), none, some (.inl (nI c)), some (.inr (.inl (rvM d a k F c k c))), none], [], (I, tk_so J 4 0 (tk_u1 (J 4 0) 3 r), R)) _
      refine dn_run 3 (show tkDn tm_67 (44, [some (.inr (.inr (4, 0, 3))), some (.inl (nI n)), some (.inl (nI a)), some (.inl (nI k)), some (.inl (nI a * 16)), some (.inl (nI k * 16)), some (.inr (.inl F)), none, some (.inl (nI c)), some (.inr (.inl (rvM d a k F c k c))), none], [.inl (lg_cmp F 4611686018427387904)], (I, tk_so J 4 0 (tk_u1 (J 4 0) 3 r), R)) _ from ?_)
      refine dn_if rfl rfl rfl (fun (q1 : (lg_cmp F 4611686018427387904) = 0) => ?_) (fun (q1 : ¬ (lg_cmp F 4611686018427387904) = 0) => ?_)
      · show tkDn tm_67 (84, [some (.inr (.inr (4, 0, 3))), some (.inl (nI n)), some (.inl (nI a)), some (.inl (nI k)), some (.inl (nI a * 16)), some (.inl (nI k * 16)), some (.inr (.inl F)), none, some (.inl (nI c)), some (.inr (.inl (rvM d a k F c k c))), none], [], (I, tk_so J 4 0 (tk_u1 (J 4 0) 3 r), R)) _
        refine dn_run 2 (show tkDn tm_67 (23, [some (.inr (.inr (4, 0, 3))), some (.inl (nI n)), some (.inl (nI a)), some (.inl (nI k)), some (.inl (nI a * 16)), some (.inl (nI k * 16)), some (.inr (.inl F)), none, some (.inl ((nI c) + 1)), some (.inr (.inl (rvM d a k F c k c))), none], [], (I, tk_so J 4 0 (tk_u1 (J 4 0) 3 r), R)) _ from ?_)
        rw [nI_1]
        exact ih (c + 1) r _ (by omega) (by rw [show rvM d a k F (c + 1) = rvM d a k F c from if_neg (fun z => z.1 ((lg_cmp_eq _ _).mp q1))]; exact hr)
      · show tkDn tm_67 (47, [some (.inr (.inr (4, 0, 3))), some (.inl (nI n)), some (.inl (nI a)), some (.inl (nI k)), some (.inl (nI a * 16)), some (.inl (nI k * 16)), some (.inr (.inl F)), none, some (.inl (nI c)), some (.inr (.inl (rvM d a k F c k c))), none], [], (I, tk_so J 4 0 (tk_u1 (J 4 0) 3 r), R)) _
        refine dn_run 3 (show tkDn tm_67 (53, [some (.inr (.inr (4, 0, 3))), some (.inl (nI n)), some (.inl (nI a)), some (.inl (nI k)), some (.inl (nI a * 16)), some (.inl (nI k * 16)), some (.inr (.inl F)), none, some (.inl (nI c)), some (.inr (.inl (rvM d a k F c k c))), none], [.inl (lg_cmp (rvM d a k F c k c) 4611686018427387904)], (I, tk_so J 4 0 (tk_u1 (J 4 0) 3 r), R)) _ from ?_)
        refine dn_if rfl rfl rfl (fun (q2 : (lg_cmp (rvM d a k F c k c) 4611686018427387904) = 0) => ?_) (fun (q2 : ¬ (lg_cmp (rvM d a k F c k c) 4611686018427387904) = 0) => ?_)
        · show tkDn tm_67 (84, [some (.inr (.inr (4, 0, 3))), some (.inl (nI n)), some (.inl (nI a)), some (.inl (nI k)), some (.inl (nI a * 16)), some (.inl (nI k * 16)), some (.inr (.inl F)), none, some (.inl (nI c)), some (.inr (.inl (rvM d a k F c k c))), none], [], (I, tk_so J 4 0 (tk_u1 (J 4 0) 3 r), R)) _
          refine dn_run 2 (show tkDn tm_67 (23, [some (.inr (.inr (4, 0, 3))), some (.inl (nI n)), some (.inl (nI a)), some (.inl (nI k)), some (.inl (nI a * 16)), some (.inl (nI k * 16)), some (.inr (.inl F)), none, some (.inl ((nI c) + 1)), some (.inr (.inl (rvM d a k F c k c))), none], [], (I, tk_so J 4 0 (tk_u1 (J 4 0) 3 r), R)) _ from ?_)
          rw [nI_1]
          exact ih (c + 1) r _ (by omega) (by rw [show rvM d a k F (c + 1) = rvM d a k F c from if_neg (fun z => z.2.1 ((lg_cmp_eq _ _).mp q2))]; exact hr)
        · show tkDn tm_67 (56, [some (.inr (.inr (4, 0, 3))), some (.inl (nI n)), some (.inl (nI a)), some (.inl (nI k)), some (.inl (nI a * 16)), some (.inl (nI k * 16)), some (.inr (.inl F)), none, some (.inl (nI c)), some (.inr (.inl (rvM d a k F c k c))), none], [], (I, tk_so J 4 0 (tk_u1 (J 4 0) 3 r), R)) _
          refine dn_run 9 (show (vp_in ((nI a * 16) + (nI c)) 256) ∧ tkDn tm_67 (69, [some (.inr (.inr (4, 0, 3))), some (.inl (nI n)), some (.inl (nI a)), some (.inl (nI k)), some (.inl (nI a * 16)), some (.inl (nI k * 16)), some (.inr (.inl F)), none, some (.inl (nI c)), some (.inr (.inl (rvM d a k F c k c))), none], [.inl (lg_cmp (F + (rvM d a k F c k c)) (r (((nI a * 16) + (nI c)).toNatClampNeg)))], (I, tk_so J 4 0 (tk_u1 (J 4 0) 3 r), R)) _ from ⟨by rw [ix16]; exact vp_in_nI (by omega) (by omega), ?_⟩)
          rw [ix16, hr.at (by omega) (by omega) (by omega)]
          refine dn_if rfl rfl rfl (fun (q3 : 0 ≤ (lg_cmp (F + rvM d a k F c k c) (rvM d a k F c a c))) => ?_) (fun (q3 : ¬ 0 ≤ (lg_cmp (F + rvM d a k F c k c) (rvM d a k F c a c))) => ?_)
          · show tkDn tm_67 (84, [some (.inr (.inr (4, 0, 3))), some (.inl (nI n)), some (.inl (nI a)), some (.inl (nI k)), some (.inl (nI a * 16)), some (.inl (nI k * 16)), some (.inr (.inl F)), none, some (.inl (nI c)), some (.inr (.inl (rvM d a k F c k c))), none], [], (I, tk_so J 4 0 (tk_u1 (J 4 0) 3 r), R)) _
            refine dn_run 2 (show tkDn tm_67 (23, [some (.inr (.inr (4, 0, 3))), some (.inl (nI n)), some (.inl (nI a)), some (.inl (nI k)), some (.inl (nI a * 16)), some (.inl (nI k * 16)), some (.inr (.inl F)), none, some (.inl ((nI c) + 1)), some (.inr (.inl (rvM d a k F c k c))), none], [], (I, tk_so J 4 0 (tk_u1 (J 4 0) 3 r), R)) _ from ?_)
            rw [nI_1]
            exact ih (c + 1) r _ (by omega) (by rw [show rvM d a k F (c + 1) = rvM d a k F c from if_neg (fun z => absurd z.2.2 (Int64.not_lt.mpr ((lg_cmp_ge _ _).mp q3)))]; exact hr)
          · show tkDn tm_67 (72, [some (.inr (.inr (4, 0, 3))), some (.inl (nI n)), some (.inl (nI a)), some (.inl (nI k)), some (.inl (nI a * 16)), some (.inl (nI k * 16)), some (.inr (.inl F)), none, some (.inl (nI c)), some (.inr (.inl (rvM d a k F c k c))), none], [], (I, tk_so J 4 0 (tk_u1 (J 4 0) 3 r), R)) _
            have q3 := Int64.not_le.mp (fun t => q3 ((lg_cmp_ge _ _).mpr t))
            refine dn_run 10 (show (vp_in ((nI a * 16) + (nI c)) 256) ∧ tkDn tm_67 (23, [some (.inr (.inr (4, 0, 3))), some (.inl (nI n)), some (.inl (nI a)), some (.inl (nI k)), some (.inl (nI a * 16)), some (.inl (nI k * 16)), some (.inr (.inl F)), none, some (.inl ((nI c) + 1)), some (.inr (.inl (rvM d a k F c k c))), none], [], (I, tk_so (tk_so J 4 0 (tk_u1 (J 4 0) 3 r)) 4 0 (tk_u2 (tk_u1 (J 4 0) 3 r) 3 (((nI a * 16) + (nI c)).toNatClampNeg) (F + (rvM d a k F c k c))), R)) _ from ⟨by rw [ix16]; exact vp_in_nI (by omega) (by omega), ?_⟩)
            rw [tk_so_so]
            rw [tk_u2_u1, ix16, nI_clamp (show 16 * a + c < 2 ^ 31 by omega), nI_1]
            exact ih (c + 1) _ _ (by omega) (by rw [show rvM d a k F (c + 1) = upM (rvM d a k F c) a c (F + rvM d a k F c k c) from if_pos ⟨fun z => q1 ((lg_cmp_eq _ _).mpr z), fun z => q2 ((lg_cmp_eq _ _).mpr z), q3⟩]; exact hr.put (by omega) (by omega))
theorem ss_lowerRowVia_4_3 {I : tkI} {J : tkJ} {R : Nat → Nat} {Q : tkQ} {d : tkD} {n a k : Nat} (hn : n ≤ 16) (ha : a < n) (hk : k < n) (hr : RowP 16 (J 4 0 3) d) (hQ : ∀ r, RowP 16 r (rvM d a k (d a k) n) → Q none (I, tk_so J 4 0 (tk_u1 (J 4 0) 3 r), R)) : tkDn tm_67 (0, [some (.inr (.inr (4, 0, 3))), some (.inl (nI n)), some (.inl (nI a)), some (.inl (nI k)), none, none, none, none, none, none, none], [], (I, J, R)) Q := by
  refine dn_run 14 (show (vp_in (((nI a) * 16) + (nI k)) 256) ∧ tkDn tm_67 (20, [some (.inr (.inr (4, 0, 3))), some (.inl (nI n)), some (.inl (nI a)), some (.inl (nI k)), some (.inl ((nI a) * 16)), some (.inl ((nI k) * 16)), some (.inr (.inl (J 4 0 3 ((((nI a) * 16) + (nI k)).toNatClampNeg)))), none, none, none, none], [], (I, J, R)) _ from ⟨by rw [ix16]; exact vp_in_nI (by omega) (by omega), ?_⟩)
  rw [ix16, hr.at (by omega) (by omega) (by omega)]
  show tkDn tm_67 (20, [some (.inr (.inr (4, 0, 3))), some (.inl (nI n)), some (.inl (nI a)), some (.inl (nI k)), some (.inl ((nI a) * 16)), some (.inl ((nI k) * 16)), some (.inr (.inl (d a k))), none, none, none, none], [], (I, J, R)) _
  refine dn_run 2 (show tkDn tm_67 (23, [some (.inr (.inr (4, 0, 3))), some (.inl (nI n)), some (.inl (nI a)), some (.inl (nI k)), some (.inl ((nI a) * 16)), some (.inl ((nI k) * 16)), some (.inr (.inl (d a k))), none, some (.inl 0), none, none], [], (I, J, R)) _ from ?_)
  have := ss_lowerRowVia_4_3_loop (J := J) hn ha hk hQ n 0 (J 4 0 3) none (Nat.zero_add _) hr
  rw [jr_id] at this
  exact this
theorem ss_neg_4_3_loop {I : tkI} {J : tkJ} {R : Nat → Nat} {Q : tkQ} {d : tkD} {n : Nat} (hn : n ≤ 16) (hr : RowP 16 (J 4 0 3) d) : ∀ m c, c + m = n → Q (some (.inl (if negF d m c = true then 1 else 0))) (I, J, R) → tkDn tm_68 (2, [some (.inr (.inr (4, 0, 3))), some (.inl (nI n)), some (.inl (nI c))], [], (I, J, R)) Q := by
  intro m
  induction m with
  | zero =>
    intro c hc hQ
    show tkDn tm_68 (2, [some (.inr (.inr (4, 0, 3))), some (.inl (nI n)), some (.inl (nI c))], [], (I, J, R)) _
    refine dn_run 2 (show tkDn tm_68 (4, [some (.inr (.inr (4, 0, 3))), some (.inl (nI n)), some (.inl (nI c))], [.inl (nI n), .inl (nI c)], (I, J, R)) _ from ?_)
    refine dn_if rfl rfl rfl (fun (q : (nI n) ≤ (nI c)) => ?_) (fun (q : ¬ (nI n) ≤ (nI c)) => ?_)
    · show tkDn tm_68 (28, [some (.inr (.inr (4, 0, 3))), some (.inl (nI n)), some (.inl (nI c))], [], (I, J, R)) _
      refine dn_run 1 (show tkDn tm_68 (29, [some (.inr (.inr (4, 0, 3))), some (.inl (nI n)), some (.inl (nI c))], [.inl 0], (I, J, R)) _ from ?_)
      refine dn_retb rfl rfl rfl rfl (by decide) ?_
      exact hQ
    · exact absurd (nI_le (by omega) (by omega)) q
  | succ m ih =>
    intro c hc hQ
    show tkDn tm_68 (2, [some (.inr (.inr (4, 0, 3))), some (.inl (nI n)), some (.inl (nI c))], [], (I, J, R)) _
    refine dn_run 2 (show tkDn tm_68 (4, [some (.inr (.inr (4, 0, 3))), some (.inl (nI n)), some (.inl (nI c))], [.inl (nI n), .inl (nI c)], (I, J, R)) _ from ?_)
    refine dn_if rfl rfl rfl (fun (q : (nI n) ≤ (nI c)) => ?_) (fun (q : ¬ (nI n) ≤ (nI c)) => ?_)
    · exact absurd q (nI_ge (by omega) (by omega))
    · show tkDn tm_68 (7, [some (.inr (.inr (4, 0, 3))), some (.inl (nI n)), some (.inl (nI c))], [], (I, J, R)) _
      refine dn_run 9 (show (vp_in (((nI c) * 16) + (nI c)) 256) ∧ tkDn tm_68 (17, [some (.inr (.inr (4, 0, 3))), some (.inl (nI n)), some (.inl (nI c))], [.inl (lg_cmp (J 4 0 3 ((((nI c) * 16) + (nI c)).toNatClampNeg)) 0)], (I, J, R)) _ from ⟨by rw [ix16]; exact vp_in_nI (by omega) (by omega), ?_⟩)
      rw [ix16, hr.at (by omega) (by omega) (by omega)]
      refine dn_if rfl rfl rfl (fun (q2 : 0 ≤ (lg_cmp (d c c) 0)) => ?_) (fun (q2 : ¬ 0 ≤ (lg_cmp (d c c) 0)) => ?_)
      · show tkDn tm_68 (22, [some (.inr (.inr (4, 0, 3))), some (.inl (nI n)), some (.inl (nI c))], [], (I, J, R)) _
        refine dn_run 2 (show tkDn tm_68 (2, [some (.inr (.inr (4, 0, 3))), some (.inl (nI n)), some (.inl ((nI c) + 1))], [], (I, J, R)) _ from ?_)
        rw [nI_1]
        rw [show negF d (m + 1) c = negF d m (c + 1) from if_neg (Int64.not_lt.mpr ((lg_cmp_ge _ _).mp q2))] at hQ
        exact ih (c + 1) (by omega) hQ
      · show tkDn tm_68 (20, [some (.inr (.inr (4, 0, 3))), some (.inl (nI n)), some (.inl (nI c))], [], (I, J, R)) _
        refine dn_run 1 (show tkDn tm_68 (21, [some (.inr (.inr (4, 0, 3))), some (.inl (nI n)), some (.inl (nI c))], [.inl 1], (I, J, R)) _ from ?_)
        refine dn_retb rfl rfl rfl rfl (by decide) ?_
        rw [show negF d (m + 1) c = true from if_pos (Int64.not_le.mp (fun t => q2 ((lg_cmp_ge _ _).mpr t)))] at hQ
        exact hQ
theorem ss_neg_4_3 {I : tkI} {J : tkJ} {R : Nat → Nat} {Q : tkQ} {d : tkD} {n : Nat} (hn : n ≤ 16) (hr : RowP 16 (J 4 0 3) d) (hQ : Q (some (.inl (if negF d n 0 = true then 1 else 0))) (I, J, R)) : tkDn tm_68 (0, [some (.inr (.inr (4, 0, 3))), some (.inl (nI n)), none], [], (I, J, R)) Q := by
  refine dn_run 2 (show tkDn tm_68 (2, [some (.inr (.inr (4, 0, 3))), some (.inl (nI n)), some (.inl 0)], [], (I, J, R)) _ from ?_)
  exact ss_neg_4_3_loop hn hr n 0 (Nat.zero_add _) hQ
theorem ss_close_4_3_in {I : tkI} {J : tkJ} {R : Nat → Nat} {Q : tkQ} {d : tkD} {n v : Nat} (hn : n ≤ 16) (hv : v < n) (hK : ∀ r, RowP 16 r (viM d v n n) → tkDn tm_66 (37, [some (.inr (.inr (4, 0, 3))), some (.inl (nI n)), some (.inl (nI v)), some (.inl (nI n))], [], (I, tk_so J 4 0 (tk_u1 (J 4 0) 3 r), R)) Q) : ∀ m a r, a + m = n → RowP 16 r (viM d v n a) → tkDn tm_66 (19, [some (.inr (.inr (4, 0, 3))), some (.inl (nI n)), some (.inl (nI v)), some (.inl (nI a))], [], (I, tk_so J 4 0 (tk_u1 (J 4 0) 3 r), R)) Q := by
  intro m
  induction m with
  | zero =>
    intro a r ha hr
    have ha : a = n := by omega
    subst ha
    show tkDn tm_66 (19, [some (.inr (.inr (4, 0, 3))), some (.inl (nI a)), some (.inl (nI v)), some (.inl (nI a))], [], (I, tk_so J 4 0 (tk_u1 (J 4 0) 3 r), R)) _
    refine dn_run 2 (show tkDn tm_66 (21, [some (.inr (.inr (4, 0, 3))), some (.inl (nI a)), some (.inl (nI v)), some (.inl (nI a))], [.inl (nI a), .inl (nI a)], (I, tk_so J 4 0 (tk_u1 (J 4 0) 3 r), R)) _ from ?_)
    refine dn_if rfl rfl rfl (fun (q : (nI a) ≤ (nI a)) => ?_) (fun (q : ¬ (nI a) ≤ (nI a)) => ?_)
    · show tkDn tm_66 (37, [some (.inr (.inr (4, 0, 3))), some (.inl (nI a)), some (.inl (nI v)), some (.inl (nI a))], [], (I, tk_so J 4 0 (tk_u1 (J 4 0) 3 r), R)) _
      exact hK r hr
    · exact absurd (nI_le (by omega) (by omega)) q
  | succ m ih =>
    intro a r ha hr
    show tkDn tm_66 (19, [some (.inr (.inr (4, 0, 3))), some (.inl (nI n)), some (.inl (nI v)), some (.inl (nI a))], [], (I, tk_so J 4 0 (tk_u1 (J 4 0) 3 r), R)) _
    refine dn_run 2 (show tkDn tm_66 (21, [some (.inr (.inr (4, 0, 3))), some (.inl (nI n)), some (.inl (nI v)), some (.inl (nI a))], [.inl (nI n), .inl (nI a)], (I, tk_so J 4 0 (tk_u1 (J 4 0) 3 r), R)) _ from ?_)
    refine dn_if rfl rfl rfl (fun (q : (nI n) ≤ (nI a)) => ?_) (fun (q : ¬ (nI n) ≤ (nI a)) => ?_)
    · exact absurd q (nI_ge (by omega) (by omega))
    · show tkDn tm_66 (24, [some (.inr (.inr (4, 0, 3))), some (.inl (nI n)), some (.inl (nI v)), some (.inl (nI a))], [], (I, tk_so J 4 0 (tk_u1 (J 4 0) 3 r), R)) _
      refine dn_run 4 (show tkDn tm_66 (28, [some (.inr (.inr (4, 0, 3))), some (.inl (nI n)), some (.inl (nI v)), some (.inl (nI a))], [.inl (nI v), .inl (nI a), .inl (nI n), .inr (.inr (4, 0, 3))], (I, tk_so J 4 0 (tk_u1 (J 4 0) 3 r), R)) _ from ?_)
      refine dn_call rfl rfl rfl rfl rfl (ss_lowerRowVia_4_3 (d := viM d v n a) hn (by omega) hv hr (fun r2 hr2 => ?_))
      rw [tk_so_so, tk_so_same, tk_u1_u1]
      show tkDn tm_66 (31, [some (.inr (.inr (4, 0, 3))), some (.inl (nI n)), some (.inl (nI v)), some (.inl (nI a))], [], (I, tk_so J 4 0 (tk_u1 (J 4 0) 3 r2), R)) _
      refine dn_run 2 (show tkDn tm_66 (19, [some (.inr (.inr (4, 0, 3))), some (.inl (nI n)), some (.inl (nI v)), some (.inl ((nI a) + 1))], [], (I, tk_so J 4 0 (tk_u1 (J 4 0) 3 r2), R)) _ from ?_)
      rw [nI_1]
      exact ih (a + 1) r2 (by omega) hr2
theorem ss_close_4_3_out {I : tkI} {J : tkJ} {R : Nat → Nat} {Q : tkQ} {n : Nat} (hn : n ≤ 16) : ∀ m v d r o, v + m = n → RowP 16 r d → (∀ r, RowP 16 r (clL n m v d).2 → Q (some (.inl (if (clL n m v d).1 = true then 1 else 0))) (I, tk_so J 4 0 (tk_u1 (J 4 0) 3 r), R)) → tkDn tm_66 (12, [some (.inr (.inr (4, 0, 3))), some (.inl (nI n)), some (.inl (nI v)), o], [], (I, tk_so J 4 0 (tk_u1 (J 4 0) 3 r), R)) Q := by
  intro m
  induction m with
  | zero =>
    intro v d r o hv hr hQ
    show tkDn tm_66 (12, [some (.inr (.inr (4, 0, 3))), some (.inl (nI n)), some (.inl (nI v)), o], [], (I, tk_so J 4 0 (tk_u1 (J 4 0) 3 r), R)) _
    refine dn_run 2 (show tkDn tm_66 (14, [some (.inr (.inr (4, 0, 3))), some (.inl (nI n)), some (.inl (nI v)), o], [.inl (nI n), .inl (nI v)], (I, tk_so J 4 0 (tk_u1 (J 4 0) 3 r), R)) _ from ?_)
    refine dn_if rfl rfl rfl (fun (q : (nI n) ≤ (nI v)) => ?_) (fun (q : ¬ (nI n) ≤ (nI v)) => ?_)
    · show tkDn tm_66 (53, [some (.inr (.inr (4, 0, 3))), some (.inl (nI n)), some (.inl (nI v)), o], [], (I, tk_so J 4 0 (tk_u1 (J 4 0) 3 r), R)) _
      refine dn_run 1 (show tkDn tm_66 (54, [some (.inr (.inr (4, 0, 3))), some (.inl (nI n)), some (.inl (nI v)), o], [.inl 1], (I, tk_so J 4 0 (tk_u1 (J 4 0) 3 r), R)) _ from ?_)
      refine dn_retb rfl rfl rfl rfl (by decide) ?_
      exact hQ r hr
    · exact absurd (nI_le (by omega) (by omega)) q
  | succ m ih =>
    intro v d r o hv hr hQ
    show tkDn tm_66 (12, [some (.inr (.inr (4, 0, 3))), some (.inl (nI n)), some (.inl (nI v)), o], [], (I, tk_so J 4 0 (tk_u1 (J 4 0) 3 r), R)) _
    refine dn_run 2 (show tkDn tm_66 (14, [some (.inr (.inr (4, 0, 3))), some (.inl (nI n)), some (.inl (nI v)), o], [.inl (nI n), .inl (nI v)], (I, tk_so J 4 0 (tk_u1 (J 4 0) 3 r), R)) _ from ?_)
    refine dn_if rfl rfl rfl (fun (q : (nI n) ≤ (nI v)) => ?_) (fun (q : ¬ (nI n) ≤ (nI v)) => ?_)
    · exact absurd q (nI_ge (by omega) (by omega))
    · show tkDn tm_66 (17, [some (.inr (.inr (4, 0, 3))), some (.inl (nI n)), some (.inl (nI v)), o], [], (I, tk_so J 4 0 (tk_u1 (J 4 0) 3 r), R)) _
      refine dn_run 2 (show tkDn tm_66 (19, [some (.inr (.inr (4, 0, 3))), some (.inl (nI n)), some (.inl (nI v)), some (.inl 0)], [], (I, tk_so J 4 0 (tk_u1 (J 4 0) 3 r), R)) _ from ?_)
      refine ss_close_4_3_in (d := d) hn (by omega) (fun r2 hr2 => ?_) n 0 r (Nat.zero_add _) hr
      show tkDn tm_66 (37, [some (.inr (.inr (4, 0, 3))), some (.inl (nI n)), some (.inl (nI v)), some (.inl (nI n))], [], (I, tk_so J 4 0 (tk_u1 (J 4 0) 3 r2), R)) _
      refine dn_run 2 (show tkDn tm_66 (39, [some (.inr (.inr (4, 0, 3))), some (.inl (nI n)), some (.inl (nI v)), some (.inl (nI n))], [.inl (nI n), .inr (.inr (4, 0, 3))], (I, tk_so J 4 0 (tk_u1 (J 4 0) 3 r2), R)) _ from ?_)
      refine dn_call rfl rfl rfl rfl rfl (ss_neg_4_3 hn (d := viM d v n n) hr2 ?_)
      show tkDn tm_66 (42, [some (.inr (.inr (4, 0, 3))), some (.inl (nI n)), some (.inl (nI v)), some (.inl (nI n))], [.inl (if negF (viM d v n n) n 0 = true then 1 else 0)], (I, tk_so J 4 0 (tk_u1 (J 4 0) 3 r2), R)) _
      refine dn_if rfl rfl rfl (fun (q2 : (if negF (viM d v n n) n 0 = true then 1 else 0) = 0) => ?_) (fun (q2 : ¬ (if negF (viM d v n n) n 0 = true then 1 else 0) = 0) => ?_)
      · show tkDn tm_66 (47, [some (.inr (.inr (4, 0, 3))), some (.inl (nI n)), some (.inl (nI v)), some (.inl (nI n))], [], (I, tk_so J 4 0 (tk_u1 (J 4 0) 3 r2), R)) _
        have hng : ¬ negF (viM d v n n) n 0 = true := fun z => by rw [if_pos z] at q2; exact absurd q2 (by decide)
        have e : clL n (m + 1) v d = clL n m (v + 1) (viM d v n n) := if_neg hng
        rw [e] at hQ
        refine dn_run 2 (show tkDn tm_66 (12, [some (.inr (.inr (4, 0, 3))), some (.inl (nI n)), some (.inl ((nI v) + 1)), some (.inl (nI n))], [], (I, tk_so J 4 0 (tk_u1 (J 4 0) 3 r2), R)) _ from ?_)
        rw [nI_1]
        exact ih (v + 1) _ r2 _ (by omega) hr2 hQ
      · show tkDn tm_66 (45, [some (.inr (.inr (4, 0, 3))), some (.inl (nI n)), some (.inl (nI v)), some (.inl (nI n))], [], (I, tk_so J 4 0 (tk_u1 (J 4 0) 3 r2), R)) _
        refine dn_run 1 (show tkDn tm_66 (46, [some (.inr (.inr (4, 0, 3))), some (.inl (nI n)), some (.inl (nI v)), some (.inl (nI n))], [.inl 0], (I, tk_so J 4 0 (tk_u1 (J 4 0) 3 r2), R)) _ from ?_)
        refine dn_retb rfl rfl rfl rfl (by decide) ?_
        have hng : negF (viM d v n n) n 0 = true := by by_cases z : negF (viM d v n n) n 0 = true; exact z; exact absurd (if_neg z) q2
        have e : clL n (m + 1) v d = (false, viM d v n n) := if_pos hng
        rw [e] at hQ
        exact hQ r2 hr2
theorem ss_close_4_3 {I : tkI} {J : tkJ} {R : Nat → Nat} {Q : tkQ} {d : tkD} {n : Nat} (hn : n ≤ 16) (hr : RowP 16 (J 4 0 3) d) (hQ : ∀ r, RowP 16 r (clF d n).2 → Q (some (.inl (if (clF d n).1 = true then 1 else 0))) (I, tk_so J 4 0 (tk_u1 (J 4 0) 3 r), R)) : tkDn tm_66 (0, [some (.inr (.inr (4, 0, 3))), some (.inl (nI n)), none, none], [], (I, J, R)) Q := by
  refine dn_run 2 (show tkDn tm_66 (2, [some (.inr (.inr (4, 0, 3))), some (.inl (nI n)), none, none], [.inl (nI n), .inr (.inr (4, 0, 3))], (I, J, R)) _ from ?_)
  refine dn_call rfl rfl rfl rfl rfl (ss_neg_4_3 hn hr ?_)
  show tkDn tm_66 (5, [some (.inr (.inr (4, 0, 3))), some (.inl (nI n)), none, none], [.inl (if negF d n 0 = true then 1 else 0)], (I, J, R)) _
  refine dn_if rfl rfl rfl (fun (q : (if negF d n 0 = true then 1 else 0) = 0) => ?_) (fun (q : ¬ (if negF d n 0 = true then 1 else 0) = 0) => ?_)
  · show tkDn tm_66 (10, [some (.inr (.inr (4, 0, 3))), some (.inl (nI n)), none, none], [], (I, J, R)) _
    have hng : ¬ negF d n 0 = true := fun z => by rw [if_pos z] at q; exact absurd q (by decide)
    have e : clF d n = clL n n 0 d := if_neg hng
    rw [e] at hQ
    refine dn_run 2 (show tkDn tm_66 (12, [some (.inr (.inr (4, 0, 3))), some (.inl (nI n)), some (.inl 0), none], [], (I, J, R)) _ from ?_)
    have := ss_close_4_3_out (J := J) hn n 0 d (J 4 0 3) none (Nat.zero_add _) hr hQ
    rw [jr_id] at this
    exact this
  · show tkDn tm_66 (8, [some (.inr (.inr (4, 0, 3))), some (.inl (nI n)), none, none], [], (I, J, R)) _
    refine dn_run 1 (show tkDn tm_66 (9, [some (.inr (.inr (4, 0, 3))), some (.inl (nI n)), none, none], [.inl 0], (I, J, R)) _ from ?_)
    refine dn_retb rfl rfl rfl rfl (by decide) ?_
    have hng : negF d n 0 = true := by by_cases z : negF d n 0 = true; exact z; exact absurd (if_neg z) q
    have e : clF d n = (false, d) := if_pos hng
    rw [e] at hQ
    have := hQ (J 4 0 3) hr
    rw [jr_id] at this
    exact this
