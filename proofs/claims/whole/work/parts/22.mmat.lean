/-! the reference: its tables -/
theorem sm_clearWays_in {I : tkI} {J : tkJ} {R : Nat → Nat} {Q : tkQ} {n a : Nat} (hn : n ≤ 16) (ha : a < n) (hK : ∀ r, cwP n a n r → tkDn tm_148 (43, [some (.inr (.inr (6, 0, 0))), some (.inl (nI n)), some (.inl (nI a)), some (.inl (nI n))], [], (I, tk_so J 6 0 (tk_u1 (J 6 0) 21 r), R)) Q) : ∀ m c r, c + m = n → cwP n a c r → tkDn tm_148 (9, [some (.inr (.inr (6, 0, 0))), some (.inl (nI n)), some (.inl (nI a)), some (.inl (nI c))], [], (I, tk_so J 6 0 (tk_u1 (J 6 0) 21 r), R)) Q := by
  intro m
  induction m with
  | zero =>
    intro c r hc hr
    have hc : c = n := by omega
    subst hc
    show tkDn tm_148 (9, [some (.inr (.inr (6, 0, 0))), some (.inl (nI c)), some (.inl (nI a)), some (.inl (nI c))], [], (I, tk_so J 6 0 (tk_u1 (J 6 0) 21 r), R)) _
    refine dn_run 2 (show tkDn tm_148 (11, [some (.inr (.inr (6, 0, 0))), some (.inl (nI c)), some (.inl (nI a)), some (.inl (nI c))], [.inl (nI c), .inl (nI c)], (I, tk_so J 6 0 (tk_u1 (J 6 0) 21 r), R)) _ from ?_)
    refine dn_if rfl rfl rfl (fun (q : (nI c) ≤ (nI c)) => ?_) (fun (q : ¬ (nI c) ≤ (nI c)) => ?_)
    · show tkDn tm_148 (43, [some (.inr (.inr (6, 0, 0))), some (.inl (nI c)), some (.inl (nI a)), some (.inl (nI c))], [], (I, tk_so J 6 0 (tk_u1 (J 6 0) 21 r), R)) _
      exact hK r hr
    · exact absurd (nI_le (by omega) (by omega)) q
  | succ m ih =>
    intro c r hc hr
    show tkDn tm_148 (9, [some (.inr (.inr (6, 0, 0))), some (.inl (nI n)), some (.inl (nI a)), some (.inl (nI c))], [], (I, tk_so J 6 0 (tk_u1 (J 6 0) 21 r), R)) _
    refine dn_run 2 (show tkDn tm_148 (11, [some (.inr (.inr (6, 0, 0))), some (.inl (nI n)), some (.inl (nI a)), some (.inl (nI c))], [.inl (nI n), .inl (nI c)], (I, tk_so J 6 0 (tk_u1 (J 6 0) 21 r), R)) _ from ?_)
    refine dn_if rfl rfl rfl (fun (q : (nI n) ≤ (nI c)) => ?_) (fun (q : ¬ (nI n) ≤ (nI c)) => ?_)
    · exact absurd q (nI_ge (by omega) (by omega))
    · show tkDn tm_148 (14, [some (.inr (.inr (6, 0, 0))), some (.inl (nI n)), some (.inl (nI a)), some (.inl (nI c))], [], (I, tk_so J 6 0 (tk_u1 (J 6 0) 21 r), R)) _
      refine dn_run 9 (show tkDn tm_148 (26, [some (.inr (.inr (6, 0, 0))), some (.inl (nI n)), some (.inl (nI a)), some (.inl (nI c))], [.inl (nI c), .inl (nI a), .inl ((16 * (nI a)) + (nI c)), .inr (.inr (6, 0, 21))], (I, tk_so J 6 0 (tk_u1 (J 6 0) 21 r), R)) _ from ?_)
      refine dn_if rfl rfl rfl (fun (q2 : ¬ (nI a) = (nI c)) => ?_) (fun (q2 : (nI a) = (nI c)) => ?_)
      · show tkDn tm_148 (33, [some (.inr (.inr (6, 0, 0))), some (.inl (nI n)), some (.inl (nI a)), some (.inl (nI c))], [.inl ((16 * (nI a)) + (nI c)), .inr (.inr (6, 0, 21))], (I, tk_so J 6 0 (tk_u1 (J 6 0) 21 r), R)) _
        refine dn_run 4 (show (vp_in ((16 * (nI a)) + (nI c)) 256) ∧ tkDn tm_148 (9, [some (.inr (.inr (6, 0, 0))), some (.inl (nI n)), some (.inl (nI a)), some (.inl ((nI c) + 1))], [], (I, tk_so (tk_so J 6 0 (tk_u1 (J 6 0) 21 r)) 6 0 (tk_u2 (tk_u1 (J 6 0) 21 r) 21 (((16 * (nI a)) + (nI c)).toNatClampNeg) 4611686018427387904), R)) _ from ⟨by rw [ix16']; exact vp_in_nI (by omega) (by omega), ?_⟩)
        rw [tk_so_so]
        rw [tk_u2_u1, ix16', nI_clamp (show 16 * a + c < 2 ^ 31 by omega), nI_1]
        exact ih (c + 1) _ (by omega) (cwP_s hn (by omega) hr (by unfold d0M; rw [if_neg (fun z => q2 (by rw [z]))]))
      · show tkDn tm_148 (29, [some (.inr (.inr (6, 0, 0))), some (.inl (nI n)), some (.inl (nI a)), some (.inl (nI c))], [.inl ((16 * (nI a)) + (nI c)), .inr (.inr (6, 0, 21))], (I, tk_so J 6 0 (tk_u1 (J 6 0) 21 r), R)) _
        refine dn_run 5 (show (vp_in ((16 * (nI a)) + (nI c)) 256) ∧ tkDn tm_148 (9, [some (.inr (.inr (6, 0, 0))), some (.inl (nI n)), some (.inl (nI a)), some (.inl ((nI c) + 1))], [], (I, tk_so (tk_so J 6 0 (tk_u1 (J 6 0) 21 r)) 6 0 (tk_u2 (tk_u1 (J 6 0) 21 r) 21 (((16 * (nI a)) + (nI c)).toNatClampNeg) 0), R)) _ from ⟨by rw [ix16']; exact vp_in_nI (by omega) (by omega), ?_⟩)
        rw [tk_so_so]
        rw [tk_u2_u1, ix16', nI_clamp (show 16 * a + c < 2 ^ 31 by omega), nI_1]
        exact ih (c + 1) _ (by omega) (cwP_s hn (by omega) hr (by unfold d0M; rw [if_pos ((nI_eq (by omega) (by omega)).mp q2)]))
theorem sm_clearWays_out {I : tkI} {J : tkJ} {R : Nat → Nat} {Q : tkQ} {n : Nat} (hn : n ≤ 16) (hQ : ∀ r, RowP n r d0M → Q none (I, tk_so J 6 0 (tk_u1 (J 6 0) 21 r), R)) : ∀ m a r o, a + m = n → cwP n a 0 r → tkDn tm_148 (2, [some (.inr (.inr (6, 0, 0))), some (.inl (nI n)), some (.inl (nI a)), o], [], (I, tk_so J 6 0 (tk_u1 (J 6 0) 21 r), R)) Q := by
  intro m
  induction m with
  | zero =>
    intro a r o ha hr
    show tkDn tm_148 (2, [some (.inr (.inr (6, 0, 0))), some (.inl (nI n)), some (.inl (nI a)), o], [], (I, tk_so J 6 0 (tk_u1 (J 6 0) 21 r), R)) _
    refine dn_run 2 (show tkDn tm_148 (4, [some (.inr (.inr (6, 0, 0))), some (.inl (nI n)), some (.inl (nI a)), o], [.inl (nI n), .inl (nI a)], (I, tk_so J 6 0 (tk_u1 (J 6 0) 21 r), R)) _ from ?_)
    refine dn_if rfl rfl rfl (fun (q : (nI n) ≤ (nI a)) => ?_) (fun (q : ¬ (nI n) ≤ (nI a)) => ?_)
    · show tkDn tm_148 (49, [some (.inr (.inr (6, 0, 0))), some (.inl (nI n)), some (.inl (nI a)), o], [], (I, tk_so J 6 0 (tk_u1 (J 6 0) 21 r), R)) _
      refine dn_ret0 rfl rfl rfl rfl ?_
      exact hQ r (fun i j hi hj => hr i j hj (Or.inl (by omega)))
    · exact absurd (nI_le (by omega) (by omega)) q
  | succ m ih =>
    intro a r o ha hr
    show tkDn tm_148 (2, [some (.inr (.inr (6, 0, 0))), some (.inl (nI n)), some (.inl (nI a)), o], [], (I, tk_so J 6 0 (tk_u1 (J 6 0) 21 r), R)) _
    refine dn_run 2 (show tkDn tm_148 (4, [some (.inr (.inr (6, 0, 0))), some (.inl (nI n)), some (.inl (nI a)), o], [.inl (nI n), .inl (nI a)], (I, tk_so J 6 0 (tk_u1 (J 6 0) 21 r), R)) _ from ?_)
    refine dn_if rfl rfl rfl (fun (q : (nI n) ≤ (nI a)) => ?_) (fun (q : ¬ (nI n) ≤ (nI a)) => ?_)
    · exact absurd q (nI_ge (by omega) (by omega))
    · show tkDn tm_148 (7, [some (.inr (.inr (6, 0, 0))), some (.inl (nI n)), some (.inl (nI a)), o], [], (I, tk_so J 6 0 (tk_u1 (J 6 0) 21 r), R)) _
      refine dn_run 2 (show tkDn tm_148 (9, [some (.inr (.inr (6, 0, 0))), some (.inl (nI n)), some (.inl (nI a)), some (.inl 0)], [], (I, tk_so J 6 0 (tk_u1 (J 6 0) 21 r), R)) _ from ?_)
      refine sm_clearWays_in hn (by omega) (fun r2 hr2 => ?_) n 0 r (Nat.zero_add _) hr
      show tkDn tm_148 (43, [some (.inr (.inr (6, 0, 0))), some (.inl (nI n)), some (.inl (nI a)), some (.inl (nI n))], [], (I, tk_so J 6 0 (tk_u1 (J 6 0) 21 r2), R)) _
      refine dn_run 2 (show tkDn tm_148 (2, [some (.inr (.inr (6, 0, 0))), some (.inl (nI n)), some (.inl ((nI a) + 1)), some (.inl (nI n))], [], (I, tk_so J 6 0 (tk_u1 (J 6 0) 21 r2), R)) _ from ?_)
      rw [nI_1]
      exact ih (a + 1) r2 _ (by omega) (fun i j hj hij => hr2 i j hj (by omega))
theorem sm_clearWays {I : tkI} {J : tkJ} {R : Nat → Nat} {Q : tkQ} {n : Nat} (hn : n ≤ 16) (hQ : ∀ r, RowP n r d0M → Q none (I, tk_so J 6 0 (tk_u1 (J 6 0) 21 r), R)) : tkDn tm_148 (0, [some (.inr (.inr (6, 0, 0))), some (.inl (nI n)), none, none], [], (I, J, R)) Q := by
  refine dn_run 2 (show tkDn tm_148 (2, [some (.inr (.inr (6, 0, 0))), some (.inl (nI n)), some (.inl 0), none], [], (I, J, R)) _ from ?_)
  have := sm_clearWays_out (J := J) hn hQ n 0 (J 6 0 21) none (Nat.zero_add _) (fun i j _ h => absurd h (by omega))
  rw [jr_id] at this
  exact this
theorem sm_step {I : tkI} {J : tkJ} {R : Nat → Nat} {Q : tkQ} {a c : Nat} {y : Int64} (ha : a < 16) (hc : c < 16) (hQ : Q none (I, tk_so J 6 0 (tk_u1 (J 6 0) 21 (low1 (J 6 0 21) (16 * a + c) y)), R)) : tkDn tm_149 (0, [some (.inr (.inr (6, 0, 0))), some (.inl (nI a)), some (.inl (nI c)), some (.inr (.inl y)), none], [], (I, J, R)) Q := by
  refine dn_run 17 (show (vp_in ((16 * (nI a)) + (nI c)) 256) ∧ tkDn tm_149 (23, [some (.inr (.inr (6, 0, 0))), some (.inl (nI a)), some (.inl (nI c)), some (.inr (.inl y)), none], [.inl (lg_cmp y (J 6 0 21 (((16 * (nI a)) + (nI c)).toNatClampNeg))), .inl ((16 * (nI a)) + (nI c)), .inr (.inr (6, 0, 21))], (I, J, R)) _ from ⟨by rw [ix16']; exact vp_in_nI (by omega) (by omega), ?_⟩)
  refine dn_if rfl rfl rfl (fun (q : 0 ≤ (lg_cmp y (J 6 0 21 (((16 * (nI a)) + (nI c)).toNatClampNeg)))) => ?_) (fun (q : ¬ 0 ≤ (lg_cmp y (J 6 0 21 (((16 * (nI a)) + (nI c)).toNatClampNeg)))) => ?_)
  · show tkDn tm_149 (30, [some (.inr (.inr (6, 0, 0))), some (.inl (nI a)), some (.inl (nI c)), some (.inr (.inl y)), none], [.inl ((16 * (nI a)) + (nI c)), .inr (.inr (6, 0, 21))], (I, J, R)) _
    refine dn_run 9 (show (vp_in ((16 * (nI a)) + (nI c)) 256) ∧ (vp_in ((16 * (nI a)) + (nI c)) 256) ∧ tkDn tm_149 (42, [some (.inr (.inr (6, 0, 0))), some (.inl (nI a)), some (.inl (nI c)), some (.inr (.inl y)), none], [], (I, tk_so J 6 0 (tk_u2 (J 6 0) 21 (((16 * (nI a)) + (nI c)).toNatClampNeg) (J 6 0 21 (((16 * (nI a)) + (nI c)).toNatClampNeg))), R)) _ from ⟨by rw [ix16']; exact vp_in_nI (by omega) (by omega), by rw [ix16']; exact vp_in_nI (by omega) (by omega), ?_⟩)
    rw [ix16', nI_clamp (show 16 * a + c < 2 ^ 31 by omega)]
    rw [ix16', nI_clamp (show 16 * a + c < 2 ^ 31 by omega)] at q
    rw [← low1', if_neg (Int64.not_lt.mpr ((lg_cmp_ge _ _).mp q))] at hQ
    refine dn_ret0 rfl rfl rfl rfl ?_
    exact hQ
  · show tkDn tm_149 (26, [some (.inr (.inr (6, 0, 0))), some (.inl (nI a)), some (.inl (nI c)), some (.inr (.inl y)), none], [.inl ((16 * (nI a)) + (nI c)), .inr (.inr (6, 0, 21))], (I, J, R)) _
    refine dn_run 3 (show (vp_in ((16 * (nI a)) + (nI c)) 256) ∧ tkDn tm_149 (42, [some (.inr (.inr (6, 0, 0))), some (.inl (nI a)), some (.inl (nI c)), some (.inr (.inl y)), none], [], (I, tk_so J 6 0 (tk_u2 (J 6 0) 21 (((16 * (nI a)) + (nI c)).toNatClampNeg) y), R)) _ from ⟨by rw [ix16']; exact vp_in_nI (by omega) (by omega), ?_⟩)
    rw [ix16', nI_clamp (show 16 * a + c < 2 ^ 31 by omega)]
    rw [ix16', nI_clamp (show 16 * a + c < 2 ^ 31 by omega)] at q
    rw [← low1', if_pos (Int64.not_le.mp (fun t => q ((lg_cmp_ge _ _).mpr t)))] at hQ
    refine dn_ret0 rfl rfl rfl rfl ?_
    exact hQ
theorem sm_closes_b {I : tkI} {J : tkJ} {R : Nat → Nat} {Q : tkQ} {d : tkD} {n a k : Nat} {M : Nat} (hn : n ≤ M) (hM : M ≤ 16) (ha : a < n) (hk : k < n) (hK : ∀ r o, RowP M r (mvM d a k n) → tkDn tm_150 (97, [some (.inr (.inr (6, 0, 0))), some (.inl (nI n)), some (.inl (nI k)), some (.inl (nI a)), o], [], (I, tk_so J 6 0 (tk_u1 (J 6 0) 21 r), R)) Q) : ∀ m c r, c + m = n → RowP M r (mvM d a k c) → tkDn tm_150 (17, [some (.inr (.inr (6, 0, 0))), some (.inl (nI n)), some (.inl (nI k)), some (.inl (nI a)), some (.inl (nI c))], [], (I, tk_so J 6 0 (tk_u1 (J 6 0) 21 r), R)) Q := by
  intro m
  induction m with
  | zero =>
    intro c r hc hr
    show tkDn tm_150 (17, [some (.inr (.inr (6, 0, 0))), some (.inl (nI n)), some (.inl (nI k)), some (.inl (nI a)), some (.inl (nI c))], [], (I, tk_so J 6 0 (tk_u1 (J 6 0) 21 r), R)) _
    refine dn_run 2 (show tkDn tm_150 (20, [some (.inr (.inr (6, 0, 0))), some (.inl (nI n)), some (.inl (nI k)), some (.inl (nI a)), some (.inl (nI c))], [.inl (nI n), .inl (nI c)], (I, tk_so J 6 0 (tk_u1 (J 6 0) 21 r), R)) _ from ?_)
    refine dn_if rfl rfl rfl (fun (q : (nI n) ≤ (nI c)) => ?_) (fun (q : ¬ (nI n) ≤ (nI c)) => ?_)
    · show tkDn tm_150 (97, [some (.inr (.inr (6, 0, 0))), some (.inl (nI n)), some (.inl (nI k)), some (.inl (nI a)), some (.inl (nI c))], [], (I, tk_so J 6 0 (tk_u1 (J 6 0) 21 r), R)) _
      have hc : c = n := by omega
      subst hc
      exact hK r _ hr
    · exact absurd (nI_le (by omega) (by omega)) q
  | succ m ih =>
    intro c r hc hr
    show tkDn tm_150 (17, [some (.inr (.inr (6, 0, 0))), some (.inl (nI n)), some (.inl (nI k)), some (.inl (nI a)), some (.inl (nI c))], [], (I, tk_so J 6 0 (tk_u1 (J 6 0) 21 r), R)) _
    refine dn_run 2 (show tkDn tm_150 (20, [some (.inr (.inr (6, 0, 0))), some (.inl (nI n)), some (.inl (nI k)), some (.inl (nI a)), some (.inl (nI c))], [.inl (nI n), .inl (nI c)], (I, tk_so J 6 0 (tk_u1 (J 6 0) 21 r), R)) _ from ?_)
    refine dn_if rfl rfl rfl (fun (q : (nI n) ≤ (nI c)) => ?_) (fun (q : ¬ (nI n) ≤ (nI c)) => ?_)
    · exact absurd q (nI_ge (by omega) (by omega))
    · show tkDn tm_150 (23, [some (.inr (.inr (6, 0, 0))), some (.inl (nI n)), some (.inl (nI k)), some (.inl (nI a)), some (.inl (nI c))], [], (I, tk_so J 6 0 (tk_u1 (J 6 0) 21 r), R)) _
      refine dn_run 10 (show (vp_in ((16 * (nI a)) + (nI k)) 256) ∧ tkDn tm_150 (38, [some (.inr (.inr (6, 0, 0))), some (.inl (nI n)), some (.inl (nI k)), some (.inl (nI a)), some (.inl (nI c))], [.inl (lg_cmp (r (((16 * (nI a)) + (nI k)).toNatClampNeg)) 4611686018427387904)], (I, tk_so J 6 0 (tk_u1 (J 6 0) 21 r), R)) _ from ⟨by rw [ix16']; exact vp_in_nI (by omega) (by omega), ?_⟩)
      rw [ix16', hr.at hM (by omega) (by omega)]
      refine dn_if rfl rfl rfl (fun (q1 : (lg_cmp (mvM d a k c a k) 4611686018427387904) = 0) => ?_) (fun (q1 : ¬ (lg_cmp (mvM d a k c a k) 4611686018427387904) = 0) => ?_)
      · show tkDn tm_150 (97, [some (.inr (.inr (6, 0, 0))), some (.inl (nI n)), some (.inl (nI k)), some (.inl (nI a)), some (.inl (nI c))], [], (I, tk_so J 6 0 (tk_u1 (J 6 0) 21 r), R)) _
        have e := mvM_stay ((lg_cmp_eq _ _).mp q1) (m + 1)
        rw [show c + (m + 1) = n by omega] at e
        exact hK r _ (by rw [e]; exact hr)
      · show tkDn tm_150 (41, [some (.inr (.inr (6, 0, 0))), some (.inl (nI n)), some (.inl (nI k)), some (.inl (nI a)), some (.inl (nI c))], [], (I, tk_so J 6 0 (tk_u1 (J 6 0) 21 r), R)) _
        have q1 : ¬ mvM d a k c a k = 4611686018427387904 := fun z => q1 ((lg_cmp_eq _ _).mpr z)
        refine dn_run 10 (show (vp_in ((16 * (nI k)) + (nI c)) 256) ∧ tkDn tm_150 (57, [some (.inr (.inr (6, 0, 0))), some (.inl (nI n)), some (.inl (nI k)), some (.inl (nI a)), some (.inl (nI c))], [.inl (lg_cmp (r (((16 * (nI k)) + (nI c)).toNatClampNeg)) 4611686018427387904)], (I, tk_so J 6 0 (tk_u1 (J 6 0) 21 r), R)) _ from ⟨by rw [ix16']; exact vp_in_nI (by omega) (by omega), ?_⟩)
        rw [ix16', hr.at hM (by omega) (by omega)]
        refine dn_if rfl rfl rfl (fun (q2 : (lg_cmp (mvM d a k c k c) 4611686018427387904) = 0) => ?_) (fun (q2 : ¬ (lg_cmp (mvM d a k c k c) 4611686018427387904) = 0) => ?_)
        · show tkDn tm_150 (91, [some (.inr (.inr (6, 0, 0))), some (.inl (nI n)), some (.inl (nI k)), some (.inl (nI a)), some (.inl (nI c))], [], (I, tk_so J 6 0 (tk_u1 (J 6 0) 21 r), R)) _
          refine dn_run 2 (show tkDn tm_150 (17, [some (.inr (.inr (6, 0, 0))), some (.inl (nI n)), some (.inl (nI k)), some (.inl (nI a)), some (.inl ((nI c) + 1))], [], (I, tk_so J 6 0 (tk_u1 (J 6 0) 21 r), R)) _ from ?_)
          rw [nI_1]
          exact ih (c + 1) r (by omega) (by rw [show mvM d a k (c + 1) = mvM d a k c by show (if mvM d a k c a k = _ then _ else _) = _; rw [if_neg q1, if_pos ((lg_cmp_eq _ _).mp q2)]]; exact hr)
        · show tkDn tm_150 (60, [some (.inr (.inr (6, 0, 0))), some (.inl (nI n)), some (.inl (nI k)), some (.inl (nI a)), some (.inl (nI c))], [], (I, tk_so J 6 0 (tk_u1 (J 6 0) 21 r), R)) _
          have q2 : ¬ mvM d a k c k c = 4611686018427387904 := fun z => q2 ((lg_cmp_eq _ _).mpr z)
          refine dn_run 20 (show (vp_in ((16 * (nI a)) + (nI k)) 256) ∧ (vp_in ((16 * (nI k)) + (nI c)) 256) ∧ tkDn tm_150 (88, [some (.inr (.inr (6, 0, 0))), some (.inl (nI n)), some (.inl (nI k)), some (.inl (nI a)), some (.inl (nI c))], [.inr (.inl ((r (((16 * (nI a)) + (nI k)).toNatClampNeg)) + (r (((16 * (nI k)) + (nI c)).toNatClampNeg)))), .inl (nI c), .inl (nI a), .inr (.inr (6, 0, 0))], (I, tk_so J 6 0 (tk_u1 (J 6 0) 21 r), R)) _ from ⟨by rw [ix16']; exact vp_in_nI (by omega) (by omega), by rw [ix16']; exact vp_in_nI (by omega) (by omega), ?_⟩)
          rw [ix16', ix16', hr.at hM (by omega) (by omega), hr.at hM (by omega) (by omega)]
          show tkDn tm_150 (88, [some (.inr (.inr (6, 0, 0))), some (.inl (nI n)), some (.inl (nI k)), some (.inl (nI a)), some (.inl (nI c))], [.inr (.inl (mvM d a k c a k + mvM d a k c k c)), .inl (nI c), .inl (nI a), .inr (.inr (6, 0, 0))], (I, tk_so J 6 0 (tk_u1 (J 6 0) 21 r), R)) _
          refine dn_call rfl rfl rfl rfl rfl (sm_step (by omega) (by omega) ?_)
          rw [tk_so_so, tk_so_same, tk_u1_u1, tk_u1_same]
          show tkDn tm_150 (91, [some (.inr (.inr (6, 0, 0))), some (.inl (nI n)), some (.inl (nI k)), some (.inl (nI a)), some (.inl (nI c))], [], (I, tk_so J 6 0 (tk_u1 (J 6 0) 21 (low1 r (16 * a + c) (mvM d a k c a k + mvM d a k c k c))), R)) _
          refine dn_run 2 (show tkDn tm_150 (17, [some (.inr (.inr (6, 0, 0))), some (.inl (nI n)), some (.inl (nI k)), some (.inl (nI a)), some (.inl ((nI c) + 1))], [], (I, tk_so J 6 0 (tk_u1 (J 6 0) 21 (low1 r (16 * a + c) (mvM d a k c a k + mvM d a k c k c))), R)) _ from ?_)
          rw [nI_1]
          exact ih (c + 1) _ (by omega) (by rw [show mvM d a k (c + 1) = lowM (mvM d a k c) a c (mvM d a k c a k + mvM d a k c k c) by show (if mvM d a k c a k = _ then _ else _) = _; rw [if_neg q1, if_neg q2]]; exact hr.low hM (by omega) (by omega))
theorem sm_closes_a {I : tkI} {J : tkJ} {R : Nat → Nat} {Q : tkQ} {d : tkD} {n k : Nat} {M : Nat} (hn : n ≤ M) (hM : M ≤ 16) (hk : k < n) (hK : ∀ r o, RowP M r (mwM d k n n) → tkDn tm_150 (103, [some (.inr (.inr (6, 0, 0))), some (.inl (nI n)), some (.inl (nI k)), some (.inl (nI n)), o], [], (I, tk_so J 6 0 (tk_u1 (J 6 0) 21 r), R)) Q) : ∀ m a r o, a + m = n → RowP M r (mwM d k n a) → tkDn tm_150 (9, [some (.inr (.inr (6, 0, 0))), some (.inl (nI n)), some (.inl (nI k)), some (.inl (nI a)), o], [], (I, tk_so J 6 0 (tk_u1 (J 6 0) 21 r), R)) Q := by
  intro m
  induction m with
  | zero =>
    intro a r o ha hr
    have ha : a = n := by omega
    subst ha
    show tkDn tm_150 (9, [some (.inr (.inr (6, 0, 0))), some (.inl (nI a)), some (.inl (nI k)), some (.inl (nI a)), o], [], (I, tk_so J 6 0 (tk_u1 (J 6 0) 21 r), R)) _
    refine dn_run 2 (show tkDn tm_150 (11, [some (.inr (.inr (6, 0, 0))), some (.inl (nI a)), some (.inl (nI k)), some (.inl (nI a)), o], [.inl (nI a), .inl (nI a)], (I, tk_so J 6 0 (tk_u1 (J 6 0) 21 r), R)) _ from ?_)
    refine dn_if rfl rfl rfl (fun (q : (nI a) ≤ (nI a)) => ?_) (fun (q : ¬ (nI a) ≤ (nI a)) => ?_)
    · show tkDn tm_150 (103, [some (.inr (.inr (6, 0, 0))), some (.inl (nI a)), some (.inl (nI k)), some (.inl (nI a)), o], [], (I, tk_so J 6 0 (tk_u1 (J 6 0) 21 r), R)) _
      exact hK r _ hr
    · exact absurd (nI_le (by omega) (by omega)) q
  | succ m ih =>
    intro a r o ha hr
    show tkDn tm_150 (9, [some (.inr (.inr (6, 0, 0))), some (.inl (nI n)), some (.inl (nI k)), some (.inl (nI a)), o], [], (I, tk_so J 6 0 (tk_u1 (J 6 0) 21 r), R)) _
    refine dn_run 2 (show tkDn tm_150 (11, [some (.inr (.inr (6, 0, 0))), some (.inl (nI n)), some (.inl (nI k)), some (.inl (nI a)), o], [.inl (nI n), .inl (nI a)], (I, tk_so J 6 0 (tk_u1 (J 6 0) 21 r), R)) _ from ?_)
    refine dn_if rfl rfl rfl (fun (q : (nI n) ≤ (nI a)) => ?_) (fun (q : ¬ (nI n) ≤ (nI a)) => ?_)
    · exact absurd q (nI_ge (by omega) (by omega))
    · show tkDn tm_150 (14, [some (.inr (.inr (6, 0, 0))), some (.inl (nI n)), some (.inl (nI k)), some (.inl (nI a)), o], [], (I, tk_so J 6 0 (tk_u1 (J 6 0) 21 r), R)) _
      refine dn_run 2 (show tkDn tm_150 (17, [some (.inr (.inr (6, 0, 0))), some (.inl (nI n)), some (.inl (nI k)), some (.inl (nI a)), some (.inl 0)], [], (I, tk_so J 6 0 (tk_u1 (J 6 0) 21 r), R)) _ from ?_)
      refine sm_closes_b (d := mwM d k n a) hn hM (by omega) hk (fun r2 o2 hr2 => ?_) n 0 r (Nat.zero_add _) hr
      show tkDn tm_150 (97, [some (.inr (.inr (6, 0, 0))), some (.inl (nI n)), some (.inl (nI k)), some (.inl (nI a)), o2], [], (I, tk_so J 6 0 (tk_u1 (J 6 0) 21 r2), R)) _
      refine dn_run 2 (show tkDn tm_150 (9, [some (.inr (.inr (6, 0, 0))), some (.inl (nI n)), some (.inl (nI k)), some (.inl ((nI a) + 1)), o2], [], (I, tk_so J 6 0 (tk_u1 (J 6 0) 21 r2), R)) _ from ?_)
      rw [nI_1]
      exact ih (a + 1) r2 _ (by omega) hr2
theorem sm_closes_k {I : tkI} {J : tkJ} {R : Nat → Nat} {Q : tkQ} {d : tkD} {n : Nat} {M : Nat} (hn : n ≤ M) (hM : M ≤ 16) (hK : ∀ r o o2, RowP M r (mcM d n n) → tkDn tm_150 (109, [some (.inr (.inr (6, 0, 0))), some (.inl (nI n)), some (.inl (nI n)), o, o2], [], (I, tk_so J 6 0 (tk_u1 (J 6 0) 21 r), R)) Q) : ∀ m k r o o2, k + m = n → RowP M r (mcM d n k) → tkDn tm_150 (2, [some (.inr (.inr (6, 0, 0))), some (.inl (nI n)), some (.inl (nI k)), o, o2], [], (I, tk_so J 6 0 (tk_u1 (J 6 0) 21 r), R)) Q := by
  intro m
  induction m with
  | zero =>
    intro k r o o2 hk hr
    have hk : k = n := by omega
    subst hk
    show tkDn tm_150 (2, [some (.inr (.inr (6, 0, 0))), some (.inl (nI k)), some (.inl (nI k)), o, o2], [], (I, tk_so J 6 0 (tk_u1 (J 6 0) 21 r), R)) _
    refine dn_run 2 (show tkDn tm_150 (4, [some (.inr (.inr (6, 0, 0))), some (.inl (nI k)), some (.inl (nI k)), o, o2], [.inl (nI k), .inl (nI k)], (I, tk_so J 6 0 (tk_u1 (J 6 0) 21 r), R)) _ from ?_)
    refine dn_if rfl rfl rfl (fun (q : (nI k) ≤ (nI k)) => ?_) (fun (q : ¬ (nI k) ≤ (nI k)) => ?_)
    · show tkDn tm_150 (109, [some (.inr (.inr (6, 0, 0))), some (.inl (nI k)), some (.inl (nI k)), o, o2], [], (I, tk_so J 6 0 (tk_u1 (J 6 0) 21 r), R)) _
      exact hK r _ _ hr
    · exact absurd (nI_le (by omega) (by omega)) q
  | succ m ih =>
    intro k r o o2 hk hr
    show tkDn tm_150 (2, [some (.inr (.inr (6, 0, 0))), some (.inl (nI n)), some (.inl (nI k)), o, o2], [], (I, tk_so J 6 0 (tk_u1 (J 6 0) 21 r), R)) _
    refine dn_run 2 (show tkDn tm_150 (4, [some (.inr (.inr (6, 0, 0))), some (.inl (nI n)), some (.inl (nI k)), o, o2], [.inl (nI n), .inl (nI k)], (I, tk_so J 6 0 (tk_u1 (J 6 0) 21 r), R)) _ from ?_)
    refine dn_if rfl rfl rfl (fun (q : (nI n) ≤ (nI k)) => ?_) (fun (q : ¬ (nI n) ≤ (nI k)) => ?_)
    · exact absurd q (nI_ge (by omega) (by omega))
    · show tkDn tm_150 (7, [some (.inr (.inr (6, 0, 0))), some (.inl (nI n)), some (.inl (nI k)), o, o2], [], (I, tk_so J 6 0 (tk_u1 (J 6 0) 21 r), R)) _
      refine dn_run 2 (show tkDn tm_150 (9, [some (.inr (.inr (6, 0, 0))), some (.inl (nI n)), some (.inl (nI k)), some (.inl 0), o2], [], (I, tk_so J 6 0 (tk_u1 (J 6 0) 21 r), R)) _ from ?_)
      refine sm_closes_a (d := mcM d n k) hn hM (by omega) (fun r2 o3 hr2 => ?_) n 0 r _ (Nat.zero_add _) hr
      show tkDn tm_150 (103, [some (.inr (.inr (6, 0, 0))), some (.inl (nI n)), some (.inl (nI k)), some (.inl (nI n)), o3], [], (I, tk_so J 6 0 (tk_u1 (J 6 0) 21 r2), R)) _
      refine dn_run 2 (show tkDn tm_150 (2, [some (.inr (.inr (6, 0, 0))), some (.inl (nI n)), some (.inl ((nI k) + 1)), some (.inl (nI n)), o3], [], (I, tk_so J 6 0 (tk_u1 (J 6 0) 21 r2), R)) _ from ?_)
      rw [nI_1]
      exact ih (k + 1) r2 _ _ (by omega) hr2
theorem sm_closes_g {I : tkI} {J : tkJ} {R : Nat → Nat} {Q : tkQ} {d : tkD} {n : Nat} {r : Nat → Int64} {o : Option tkV} {M : Nat} (hn : n ≤ M) (hM : M ≤ 16) (hr : RowP M r d) : ∀ m a (g : Int32), a + m = n → (g = 0 ∨ g = 1) → Q (some (.inl (if g = 1 ∧ negF d m a = false then 1 else 0))) (I, tk_so J 6 0 (tk_u1 (J 6 0) 21 r), R) → tkDn tm_150 (113, [some (.inr (.inr (6, 0, 0))), some (.inl (nI n)), some (.inl g), some (.inl (nI a)), o], [], (I, tk_so J 6 0 (tk_u1 (J 6 0) 21 r), R)) Q := by
  intro m
  induction m with
  | zero =>
    intro a g ha hg hQ
    show tkDn tm_150 (113, [some (.inr (.inr (6, 0, 0))), some (.inl (nI n)), some (.inl g), some (.inl (nI a)), o], [], (I, tk_so J 6 0 (tk_u1 (J 6 0) 21 r), R)) _
    refine dn_run 2 (show tkDn tm_150 (115, [some (.inr (.inr (6, 0, 0))), some (.inl (nI n)), some (.inl g), some (.inl (nI a)), o], [.inl (nI n), .inl (nI a)], (I, tk_so J 6 0 (tk_u1 (J 6 0) 21 r), R)) _ from ?_)
    refine dn_if rfl rfl rfl (fun (q : (nI n) ≤ (nI a)) => ?_) (fun (q : ¬ (nI n) ≤ (nI a)) => ?_)
    · show tkDn tm_150 (148, [some (.inr (.inr (6, 0, 0))), some (.inl (nI n)), some (.inl g), some (.inl (nI a)), o], [], (I, tk_so J 6 0 (tk_u1 (J 6 0) 21 r), R)) _
      refine dn_run 1 (show tkDn tm_150 (149, [some (.inr (.inr (6, 0, 0))), some (.inl (nI n)), some (.inl g), some (.inl (nI a)), o], [.inl g], (I, tk_so J 6 0 (tk_u1 (J 6 0) 21 r), R)) _ from ?_)
      refine dn_retb rfl rfl rfl rfl hg ?_
      rcases hg with rfl | rfl
      · exact hQ
      · exact hQ
    · exact absurd (nI_le (by omega) (by omega)) q
  | succ m ih =>
    intro a g ha hg hQ
    show tkDn tm_150 (113, [some (.inr (.inr (6, 0, 0))), some (.inl (nI n)), some (.inl g), some (.inl (nI a)), o], [], (I, tk_so J 6 0 (tk_u1 (J 6 0) 21 r), R)) _
    refine dn_run 2 (show tkDn tm_150 (115, [some (.inr (.inr (6, 0, 0))), some (.inl (nI n)), some (.inl g), some (.inl (nI a)), o], [.inl (nI n), .inl (nI a)], (I, tk_so J 6 0 (tk_u1 (J 6 0) 21 r), R)) _ from ?_)
    refine dn_if rfl rfl rfl (fun (q : (nI n) ≤ (nI a)) => ?_) (fun (q : ¬ (nI n) ≤ (nI a)) => ?_)
    · exact absurd q (nI_ge (by omega) (by omega))
    · show tkDn tm_150 (118, [some (.inr (.inr (6, 0, 0))), some (.inl (nI n)), some (.inl g), some (.inl (nI a)), o], [], (I, tk_so J 6 0 (tk_u1 (J 6 0) 21 r), R)) _
      refine dn_run 1 (show tkDn tm_150 (119, [some (.inr (.inr (6, 0, 0))), some (.inl (nI n)), some (.inl g), some (.inl (nI a)), o], [.inl g], (I, tk_so J 6 0 (tk_u1 (J 6 0) 21 r), R)) _ from ?_)
      refine dn_if rfl rfl rfl (fun (q1 : g = 0) => ?_) (fun (q1 : ¬ g = 0) => ?_)
      · show tkDn tm_150 (140, [some (.inr (.inr (6, 0, 0))), some (.inl (nI n)), some (.inl g), some (.inl (nI a)), o], [], (I, tk_so J 6 0 (tk_u1 (J 6 0) 21 r), R)) _
        refine dn_run 4 (show tkDn tm_150 (113, [some (.inr (.inr (6, 0, 0))), some (.inl (nI n)), some (.inl 0), some (.inl ((nI a) + 1)), o], [], (I, tk_so J 6 0 (tk_u1 (J 6 0) 21 r), R)) _ from ?_)
        rw [nI_1]
        refine ih (a + 1) 0 (by omega) (Or.inl rfl) ?_
        rw [if_neg (fun z => absurd z.1 (by rw [q1]; decide))] at hQ
        rw [if_neg (fun z => absurd z.1 (by decide))]
        exact hQ
      · show tkDn tm_150 (122, [some (.inr (.inr (6, 0, 0))), some (.inl (nI n)), some (.inl g), some (.inl (nI a)), o], [], (I, tk_so J 6 0 (tk_u1 (J 6 0) 21 r), R)) _
        have hg1 : g = 1 := hg.resolve_left q1
        refine dn_run 8 (show (vp_in (17 * (nI a)) 256) ∧ tkDn tm_150 (133, [some (.inr (.inr (6, 0, 0))), some (.inl (nI n)), some (.inl g), some (.inl (nI a)), o], [.inl (lg_cmp (r ((17 * (nI a)).toNatClampNeg)) 0)], (I, tk_so J 6 0 (tk_u1 (J 6 0) 21 r), R)) _ from ⟨by rw [ix17]; exact vp_in_nI (by omega) (by omega), ?_⟩)
        rw [ix17, hr.at hM (by omega) (by omega)]
        refine dn_if rfl rfl rfl (fun (q2 : (lg_cmp (d a a) 0) < 0) => ?_) (fun (q2 : ¬ (lg_cmp (d a a) 0) < 0) => ?_)
        · show tkDn tm_150 (140, [some (.inr (.inr (6, 0, 0))), some (.inl (nI n)), some (.inl g), some (.inl (nI a)), o], [], (I, tk_so J 6 0 (tk_u1 (J 6 0) 21 r), R)) _
          refine dn_run 4 (show tkDn tm_150 (113, [some (.inr (.inr (6, 0, 0))), some (.inl (nI n)), some (.inl 0), some (.inl ((nI a) + 1)), o], [], (I, tk_so J 6 0 (tk_u1 (J 6 0) 21 r), R)) _ from ?_)
          rw [nI_1]
          refine ih (a + 1) 0 (by omega) (Or.inl rfl) ?_
          rw [show negF d (m + 1) a = true from if_pos ((lg_cmp_lt _ _).mp q2), if_neg (fun z => absurd z.2 (by decide))] at hQ
          rw [if_neg (fun z => absurd z.1 (by decide))]
          exact hQ
        · show tkDn tm_150 (136, [some (.inr (.inr (6, 0, 0))), some (.inl (nI n)), some (.inl g), some (.inl (nI a)), o], [], (I, tk_so J 6 0 (tk_u1 (J 6 0) 21 r), R)) _
          refine dn_run 5 (show tkDn tm_150 (113, [some (.inr (.inr (6, 0, 0))), some (.inl (nI n)), some (.inl 1), some (.inl ((nI a) + 1)), o], [], (I, tk_so J 6 0 (tk_u1 (J 6 0) 21 r), R)) _ from ?_)
          rw [nI_1]
          refine ih (a + 1) 1 (by omega) (Or.inr rfl) ?_
          rw [show negF d (m + 1) a = negF d m (a + 1) from if_neg (fun z => q2 ((lg_cmp_lt _ _).mpr z)), hg1] at hQ
          exact hQ
theorem sm_closes {I : tkI} {J : tkJ} {R : Nat → Nat} {Q : tkQ} {d : tkD} {n : Nat} {M : Nat} (hn : n ≤ M) (hM : M ≤ 16) (hr : RowP M (J 6 0 21) d) (hQ : ∀ r, RowP M r (mcF d n).2 → Q (some (.inl (if (mcF d n).1 = true then 1 else 0))) (I, tk_so J 6 0 (tk_u1 (J 6 0) 21 r), R)) : tkDn tm_150 (0, [some (.inr (.inr (6, 0, 0))), some (.inl (nI n)), none, none, none], [], (I, J, R)) Q := by
  refine dn_run 2 (show tkDn tm_150 (2, [some (.inr (.inr (6, 0, 0))), some (.inl (nI n)), some (.inl 0), none, none], [], (I, J, R)) _ from ?_)
  have key := sm_closes_k (I := I) (J := J) (R := R) (Q := Q) (d := d) hn hM (fun r o o2 hr => ?_) n 0 (J 6 0 21) none none (Nat.zero_add _) hr
  · rw [jr_id] at key; exact key
  · show tkDn tm_150 (109, [some (.inr (.inr (6, 0, 0))), some (.inl (nI n)), some (.inl (nI n)), o, o2], [], (I, tk_so J 6 0 (tk_u1 (J 6 0) 21 r), R)) _
    refine dn_run 4 (show tkDn tm_150 (113, [some (.inr (.inr (6, 0, 0))), some (.inl (nI n)), some (.inl 1), some (.inl 0), o2], [], (I, tk_so J 6 0 (tk_u1 (J 6 0) 21 r), R)) _ from ?_)
    refine sm_closes_g hn hM hr n 0 1 (Nat.zero_add _) (Or.inr rfl) ?_
    have := hQ r hr
    unfold mcF at this
    dsimp only at this
    cases hb : negF (mcM d n n) n 0 with
    | true => rw [hb] at this; exact this
    | false => rw [hb] at this; exact this
