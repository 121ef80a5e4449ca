/-! the reference: small methods of its waits; J is written as tk_so J 6 0 N -/
set_option maxRecDepth 8000 in
theorem sm_begin {I : tkI} {J : tkJ} {R : Nat → Nat} {Q : tkQ} {S : tkS} (hP : NetP (I 6 0) S) (w : WF S) {g : Nat} (hg : g < sG S) (hQ : Q (some (.inl (nI (sf S (sgl S g))))) (I, J, R)) : tkDn tm_164 (0, [some (.inr (.inr (6, 0, 0))), some (.inl (nI g))], [], (I, J, R)) Q := by
  have h1 := hP.gl w hg
  have hl := w.gl hg
  have h2 := hP.fr w hl
  have hG6 := w.2.2.1
  have hL60 := w.2.1
  refine dn_run 7 (show (vp_in (nI g) 6) ∧ (vp_in (I 6 0 9 ((nI g).toNatClampNeg)) 60) ∧ tkDn tm_164 (11, [some (.inr (.inr (6, 0, 0))), some (.inl (nI g))], [.inl (I 6 0 4 ((I 6 0 9 ((nI g).toNatClampNeg)).toNatClampNeg))], (I, J, R)) _ from ⟨vp_in_nI (by omega) (by omega), by rw [h1]; exact vp_in_nI (by omega) (by omega), ?_⟩)
  rw [h1, h2]
  refine dn_ret0 rfl rfl rfl rfl ?_
  exact hQ
set_option maxRecDepth 8000 in
theorem sm_end {I : tkI} {J : tkJ} {R : Nat → Nat} {Q : tkQ} {S : tkS} (hP : NetP (I 6 0) S) (w : WF S) {g : Nat} (hg : g < sG S) (hQ : Q (some (.inl (nI (se S (sgl S g))))) (I, J, R)) : tkDn tm_165 (0, [some (.inr (.inr (6, 0, 0))), some (.inl (nI g))], [], (I, J, R)) Q := by
  have h1 := hP.gl w hg
  have hl := w.gl hg
  have h2 := hP.en w hl
  have hG6 := w.2.2.1
  have hL60 := w.2.1
  refine dn_run 7 (show (vp_in (nI g) 6) ∧ (vp_in (I 6 0 9 ((nI g).toNatClampNeg)) 60) ∧ tkDn tm_165 (11, [some (.inr (.inr (6, 0, 0))), some (.inl (nI g))], [.inl (I 6 0 5 ((I 6 0 9 ((nI g).toNatClampNeg)).toNatClampNeg))], (I, J, R)) _ from ⟨vp_in_nI (by omega) (by omega), by rw [h1]; exact vp_in_nI (by omega) (by omega), ?_⟩)
  rw [h1, h2]
  refine dn_ret0 rfl rfl rfl rfl ?_
  exact hQ
set_option maxRecDepth 8000 in
theorem sm_sum {I : tkI} {J : tkJ} {R : Nat → Nat} {Q : tkQ} {x y : Int64} (hQ : Q (some (.inr (.inl (sumF x y)))) (I, J, R)) : tkDn tm_160 (0, [some (.inr (.inl x)), none, some (.inr (.inl y)), none], [], (I, J, R)) Q := by
  refine dn_run 3 (show tkDn tm_160 (5, [some (.inr (.inl x)), none, some (.inr (.inl y)), none], [.inl (lg_cmp x 4611686018427387904)], (I, J, R)) _ from ?_)
  refine dn_if rfl rfl rfl (fun (c1 : (lg_cmp x 4611686018427387904) = 0) => ?_) (fun (c1 : ¬ (lg_cmp x 4611686018427387904) = 0) => ?_)
  · show tkDn tm_160 (16, [some (.inr (.inl x)), none, some (.inr (.inl y)), none], [], (I, J, R)) _
    refine dn_run 2 (show tkDn tm_160 (25, [some (.inr (.inl x)), none, some (.inr (.inl y)), none], [.inr (.inl 4611686018427387904)], (I, J, R)) _ from ?_)
    refine dn_ret0 rfl rfl rfl rfl ?_
    rw [show sumF x y = 4611686018427387904 from if_pos (Or.inl ((lg_cmp_eq _ _).mp c1))] at hQ
    exact hQ
  · show tkDn tm_160 (8, [some (.inr (.inl x)), none, some (.inr (.inl y)), none], [], (I, J, R)) _
    refine dn_run 3 (show tkDn tm_160 (13, [some (.inr (.inl x)), none, some (.inr (.inl y)), none], [.inl (lg_cmp y 4611686018427387904)], (I, J, R)) _ from ?_)
    refine dn_if rfl rfl rfl (fun (c2 : ¬ (lg_cmp y 4611686018427387904) = 0) => ?_) (fun (c2 : (lg_cmp y 4611686018427387904) = 0) => ?_)
    · show tkDn tm_160 (22, [some (.inr (.inl x)), none, some (.inr (.inl y)), none], [], (I, J, R)) _
      refine dn_run 3 (show tkDn tm_160 (25, [some (.inr (.inl x)), none, some (.inr (.inl y)), none], [.inr (.inl (x + y))], (I, J, R)) _ from ?_)
      refine dn_ret0 rfl rfl rfl rfl ?_
      rw [show sumF x y = x + y from if_neg (fun q => q.elim (fun q => c1 ((lg_cmp_eq _ _).mpr q)) (fun q => c2 ((lg_cmp_eq _ _).mpr q)))] at hQ
      exact hQ
    · show tkDn tm_160 (16, [some (.inr (.inl x)), none, some (.inr (.inl y)), none], [], (I, J, R)) _
      refine dn_run 2 (show tkDn tm_160 (25, [some (.inr (.inl x)), none, some (.inr (.inl y)), none], [.inr (.inl 4611686018427387904)], (I, J, R)) _ from ?_)
      refine dn_ret0 rfl rfl rfl rfl ?_
      rw [show sumF x y = 4611686018427387904 from if_pos (Or.inr ((lg_cmp_eq _ _).mp c2))] at hQ
      exact hQ
set_option maxRecDepth 8000 in
theorem sm_lessEdge {I : tkI} {J : tkJ} {R : Nat → Nat} {Q : tkQ} {a c : Nat} {y : Int64} (ha : a < 16) (hc : c < 16) (hQ : Q none (I, tk_so J 6 0 (tk_u1 (J 6 0) 24 (low1 (J 6 0 24) (16 * a + c) y)), R)) : tkDn tm_161 (0, [some (.inr (.inr (6, 0, 0))), some (.inl (nI a)), some (.inl (nI c)), some (.inr (.inl y)), none], [], (I, J, R)) Q := by
  refine dn_run 17 (show (vp_in ((16 * (nI a)) + (nI c)) 256) ∧ tkDn tm_161 (23, [some (.inr (.inr (6, 0, 0))), some (.inl (nI a)), some (.inl (nI c)), some (.inr (.inl y)), none], [.inl (lg_cmp y (J 6 0 24 (((16 * (nI a)) + (nI c)).toNatClampNeg))), .inl ((16 * (nI a)) + (nI c)), .inr (.inr (6, 0, 24))], (I, J, R)) _ from ⟨by rw [ix16']; exact vp_in_nI (by omega) (by omega), ?_⟩)
  refine dn_if rfl rfl rfl (fun (q : 0 ≤ (lg_cmp y (J 6 0 24 (((16 * (nI a)) + (nI c)).toNatClampNeg)))) => ?_) (fun (q : ¬ 0 ≤ (lg_cmp y (J 6 0 24 (((16 * (nI a)) + (nI c)).toNatClampNeg)))) => ?_)
  · show tkDn tm_161 (30, [some (.inr (.inr (6, 0, 0))), some (.inl (nI a)), some (.inl (nI c)), some (.inr (.inl y)), none], [.inl ((16 * (nI a)) + (nI c)), .inr (.inr (6, 0, 24))], (I, J, R)) _
    refine dn_run 9 (show (vp_in ((16 * (nI a)) + (nI c)) 256) ∧ (vp_in ((16 * (nI a)) + (nI c)) 256) ∧ tkDn tm_161 (42, [some (.inr (.inr (6, 0, 0))), some (.inl (nI a)), some (.inl (nI c)), some (.inr (.inl y)), none], [], (I, tk_so J 6 0 (tk_u2 (J 6 0) 24 (((16 * (nI a)) + (nI c)).toNatClampNeg) (J 6 0 24 (((16 * (nI a)) + (nI c)).toNatClampNeg))), R)) _ from ⟨by rw [ix16']; exact vp_in_nI (by omega) (by omega), by rw [ix16']; exact vp_in_nI (by omega) (by omega), ?_⟩)
    rw [ix16', nI_clamp (show 16 * a + c < 2 ^ 31 by omega)]
    rw [ix16', nI_clamp (show 16 * a + c < 2 ^ 31 by omega)] at q
    rw [← low1', if_neg (Int64.not_lt.mpr ((lg_cmp_ge _ _).mp q))] at hQ
    refine dn_ret0 rfl rfl rfl rfl ?_
    exact hQ
  · show tkDn tm_161 (26, [some (.inr (.inr (6, 0, 0))), some (.inl (nI a)), some (.inl (nI c)), some (.inr (.inl y)), none], [.inl ((16 * (nI a)) + (nI c)), .inr (.inr (6, 0, 24))], (I, J, R)) _
    refine dn_run 3 (show (vp_in ((16 * (nI a)) + (nI c)) 256) ∧ tkDn tm_161 (42, [some (.inr (.inr (6, 0, 0))), some (.inl (nI a)), some (.inl (nI c)), some (.inr (.inl y)), none], [], (I, tk_so J 6 0 (tk_u2 (J 6 0) 24 (((16 * (nI a)) + (nI c)).toNatClampNeg) y), R)) _ from ⟨by rw [ix16']; exact vp_in_nI (by omega) (by omega), ?_⟩)
    rw [ix16', nI_clamp (show 16 * a + c < 2 ^ 31 by omega)]
    rw [ix16', nI_clamp (show 16 * a + c < 2 ^ 31 by omega)] at q
    rw [← low1', if_pos (Int64.not_le.mp (fun t => q ((lg_cmp_ge _ _).mpr t)))] at hQ
    refine dn_ret0 rfl rfl rfl rfl ?_
    exact hQ
set_option maxRecDepth 8000 in
theorem sm_lessWait {I : tkI} {J : tkJ} {R : Nat → Nat} {Q : tkQ} {a c : Nat} {y : Int64} (ha : a < 16) (hc : c < 6) (hQ : Q none (I, tk_so J 6 0 (tk_u1 (J 6 0) 25 (low1 (J 6 0 25) (6 * a + c) y)), R)) : tkDn tm_162 (0, [some (.inr (.inr (6, 0, 0))), some (.inl (nI a)), some (.inl (nI c)), some (.inr (.inl y)), none], [], (I, J, R)) Q := by
  refine dn_run 17 (show (vp_in ((6 * (nI a)) + (nI c)) 96) ∧ tkDn tm_162 (23, [some (.inr (.inr (6, 0, 0))), some (.inl (nI a)), some (.inl (nI c)), some (.inr (.inl y)), none], [.inl (lg_cmp y (J 6 0 25 (((6 * (nI a)) + (nI c)).toNatClampNeg))), .inl ((6 * (nI a)) + (nI c)), .inr (.inr (6, 0, 25))], (I, J, R)) _ from ⟨by rw [ix6']; exact vp_in_nI (by omega) (by omega), ?_⟩)
  refine dn_if rfl rfl rfl (fun (q : 0 ≤ (lg_cmp y (J 6 0 25 (((6 * (nI a)) + (nI c)).toNatClampNeg)))) => ?_) (fun (q : ¬ 0 ≤ (lg_cmp y (J 6 0 25 (((6 * (nI a)) + (nI c)).toNatClampNeg)))) => ?_)
  · show tkDn tm_162 (30, [some (.inr (.inr (6, 0, 0))), some (.inl (nI a)), some (.inl (nI c)), some (.inr (.inl y)), none], [.inl ((6 * (nI a)) + (nI c)), .inr (.inr (6, 0, 25))], (I, J, R)) _
    refine dn_run 9 (show (vp_in ((6 * (nI a)) + (nI c)) 96) ∧ (vp_in ((6 * (nI a)) + (nI c)) 96) ∧ tkDn tm_162 (42, [some (.inr (.inr (6, 0, 0))), some (.inl (nI a)), some (.inl (nI c)), some (.inr (.inl y)), none], [], (I, tk_so J 6 0 (tk_u2 (J 6 0) 25 (((6 * (nI a)) + (nI c)).toNatClampNeg) (J 6 0 25 (((6 * (nI a)) + (nI c)).toNatClampNeg))), R)) _ from ⟨by rw [ix6']; exact vp_in_nI (by omega) (by omega), by rw [ix6']; exact vp_in_nI (by omega) (by omega), ?_⟩)
    rw [ix6', nI_clamp (show 6 * a + c < 2 ^ 31 by omega)]
    rw [ix6', nI_clamp (show 6 * a + c < 2 ^ 31 by omega)] at q
    rw [← low1', if_neg (Int64.not_lt.mpr ((lg_cmp_ge _ _).mp q))] at hQ
    refine dn_ret0 rfl rfl rfl rfl ?_
    exact hQ
  · show tkDn tm_162 (26, [some (.inr (.inr (6, 0, 0))), some (.inl (nI a)), some (.inl (nI c)), some (.inr (.inl y)), none], [.inl ((6 * (nI a)) + (nI c)), .inr (.inr (6, 0, 25))], (I, J, R)) _
    refine dn_run 3 (show (vp_in ((6 * (nI a)) + (nI c)) 96) ∧ tkDn tm_162 (42, [some (.inr (.inr (6, 0, 0))), some (.inl (nI a)), some (.inl (nI c)), some (.inr (.inl y)), none], [], (I, tk_so J 6 0 (tk_u2 (J 6 0) 25 (((6 * (nI a)) + (nI c)).toNatClampNeg) y), R)) _ from ⟨by rw [ix6']; exact vp_in_nI (by omega) (by omega), ?_⟩)
    rw [ix6', nI_clamp (show 6 * a + c < 2 ^ 31 by omega)]
    rw [ix6', nI_clamp (show 6 * a + c < 2 ^ 31 by omega)] at q
    rw [← low1', if_pos (Int64.not_le.mp (fun t => q ((lg_cmp_ge _ _).mpr t)))] at hQ
    refine dn_ret0 rfl rfl rfl rfl ?_
    exact hQ
set_option maxRecDepth 8000 in
theorem sm_see_1 {I : tkI} {J : tkJ} {R : Nat → Nat} {Q : tkQ} {N : Nat → Nat → Int64} (hK : tkDn tm_163 (27, [some (.inr (.inr (6, 0, 0))), some (.inl (nI 256))], [], (I, tk_so J 6 0 (tk_u1 N 28 (cpR (N 24) (N 28) 256)), R)) Q) : ∀ m i, i + m = 256 → tkDn tm_163 (2, [some (.inr (.inr (6, 0, 0))), some (.inl (nI i))], [], (I, tk_so J 6 0 (tk_u1 N 28 (cpR (N 24) (N 28) i)), R)) Q := by
  intro m
  induction m with
  | zero =>
    intro i hi
    have hi : i = 256 := by omega
    subst hi
    show tkDn tm_163 (2, [some (.inr (.inr (6, 0, 0))), some (.inl (nI 256))], [], (I, tk_so J 6 0 (tk_u1 N 28 (cpR (N 24) (N 28) 256)), R)) _
    refine dn_run 2 (show tkDn tm_163 (6, [some (.inr (.inr (6, 0, 0))), some (.inl (nI 256))], [.inl 256, .inl (nI 256)], (I, tk_so J 6 0 (tk_u1 N 28 (cpR (N 24) (N 28) 256)), R)) _ from ?_)
    refine dn_if rfl rfl rfl (fun (c : 256 ≤ (nI 256)) => ?_) (fun (c : ¬ 256 ≤ (nI 256)) => ?_)
    · exact hK
    · exact absurd (by decide) c
  | succ m ih =>
    intro i hi
    show tkDn tm_163 (2, [some (.inr (.inr (6, 0, 0))), some (.inl (nI i))], [], (I, tk_so J 6 0 (tk_u1 N 28 (cpR (N 24) (N 28) i)), R)) _
    refine dn_run 2 (show tkDn tm_163 (6, [some (.inr (.inr (6, 0, 0))), some (.inl (nI i))], [.inl 256, .inl (nI i)], (I, tk_so J 6 0 (tk_u1 N 28 (cpR (N 24) (N 28) i)), R)) _ from ?_)
    refine dn_if rfl rfl rfl (fun (c : 256 ≤ (nI i)) => ?_) (fun (c : ¬ 256 ≤ (nI i)) => ?_)
    · exact absurd c (nI_ge (b := 256) (by omega) (by omega))
    · show tkDn tm_163 (9, [some (.inr (.inr (6, 0, 0))), some (.inl (nI i))], [], (I, tk_so J 6 0 (tk_u1 N 28 (cpR (N 24) (N 28) i)), R)) _
      refine dn_run 10 (show (vp_in (nI i) 256) ∧ (vp_in (nI i) 256) ∧ tkDn tm_163 (2, [some (.inr (.inr (6, 0, 0))), some (.inl ((nI i) + 1))], [], (I, tk_so (tk_so J 6 0 (tk_u1 N 28 (cpR (N 24) (N 28) i))) 6 0 (tk_u2 (tk_u1 N 28 (cpR (N 24) (N 28) i)) 28 ((nI i).toNatClampNeg) (N 24 ((nI i).toNatClampNeg))), R)) _ from ⟨vp_in_nI (by omega) (by omega), vp_in_nI (by omega) (by omega), ?_⟩)
      rw [tk_so_so]
      rw [tk_u2_u1, nI_clamp (show i < 2 ^ 31 by omega), cpR_s, nI_1]
      exact ih (i + 1) (by omega)
set_option maxRecDepth 8000 in
theorem sm_see_2 {I : tkI} {J : tkJ} {R : Nat → Nat} {Q : tkQ} {N : Nat → Nat → Int64} (hK : tkDn tm_163 (53, [some (.inr (.inr (6, 0, 0))), some (.inl (nI 96))], [], (I, tk_so J 6 0 (tk_u1 N 29 (cpR (N 25) (N 29) 96)), R)) Q) : ∀ m i, i + m = 96 → tkDn tm_163 (29, [some (.inr (.inr (6, 0, 0))), some (.inl (nI i))], [], (I, tk_so J 6 0 (tk_u1 N 29 (cpR (N 25) (N 29) i)), R)) Q := by
  intro m
  induction m with
  | zero =>
    intro i hi
    have hi : i = 96 := by omega
    subst hi
    show tkDn tm_163 (29, [some (.inr (.inr (6, 0, 0))), some (.inl (nI 96))], [], (I, tk_so J 6 0 (tk_u1 N 29 (cpR (N 25) (N 29) 96)), R)) _
    refine dn_run 2 (show tkDn tm_163 (32, [some (.inr (.inr (6, 0, 0))), some (.inl (nI 96))], [.inl 96, .inl (nI 96)], (I, tk_so J 6 0 (tk_u1 N 29 (cpR (N 25) (N 29) 96)), R)) _ from ?_)
    refine dn_if rfl rfl rfl (fun (c : 96 ≤ (nI 96)) => ?_) (fun (c : ¬ 96 ≤ (nI 96)) => ?_)
    · exact hK
    · exact absurd (by decide) c
  | succ m ih =>
    intro i hi
    show tkDn tm_163 (29, [some (.inr (.inr (6, 0, 0))), some (.inl (nI i))], [], (I, tk_so J 6 0 (tk_u1 N 29 (cpR (N 25) (N 29) i)), R)) _
    refine dn_run 2 (show tkDn tm_163 (32, [some (.inr (.inr (6, 0, 0))), some (.inl (nI i))], [.inl 96, .inl (nI i)], (I, tk_so J 6 0 (tk_u1 N 29 (cpR (N 25) (N 29) i)), R)) _ from ?_)
    refine dn_if rfl rfl rfl (fun (c : 96 ≤ (nI i)) => ?_) (fun (c : ¬ 96 ≤ (nI i)) => ?_)
    · exact absurd c (nI_ge (b := 96) (by omega) (by omega))
    · show tkDn tm_163 (35, [some (.inr (.inr (6, 0, 0))), some (.inl (nI i))], [], (I, tk_so J 6 0 (tk_u1 N 29 (cpR (N 25) (N 29) i)), R)) _
      refine dn_run 10 (show (vp_in (nI i) 96) ∧ (vp_in (nI i) 96) ∧ tkDn tm_163 (29, [some (.inr (.inr (6, 0, 0))), some (.inl ((nI i) + 1))], [], (I, tk_so (tk_so J 6 0 (tk_u1 N 29 (cpR (N 25) (N 29) i))) 6 0 (tk_u2 (tk_u1 N 29 (cpR (N 25) (N 29) i)) 29 ((nI i).toNatClampNeg) (N 25 ((nI i).toNatClampNeg))), R)) _ from ⟨vp_in_nI (by omega) (by omega), vp_in_nI (by omega) (by omega), ?_⟩)
      rw [tk_so_so]
      rw [tk_u2_u1, nI_clamp (show i < 2 ^ 31 by omega), cpR_s, nI_1]
      exact ih (i + 1) (by omega)
set_option maxRecDepth 8000 in
theorem sm_see {I : tkI} {J : tkJ} {R : Nat → Nat} {Q : tkQ} {N : Nat → Nat → Int64} (hQ : ∀ N2, (∀ j, j < 256 → N2 28 j = N 24 j) → (∀ j, j < 96 → N2 29 j = N 25 j) → (∀ s, s ≠ 28 → s ≠ 29 → N2 s = N s) → Q none (I, tk_so J 6 0 N2, R)) : tkDn tm_163 (0, [some (.inr (.inr (6, 0, 0))), none], [], (I, tk_so J 6 0 N, R)) Q := by
  refine dn_run 2 (show tkDn tm_163 (2, [some (.inr (.inr (6, 0, 0))), some (.inl 0)], [], (I, tk_so J 6 0 N, R)) _ from ?_)
  have key := sm_see_1 (I := I) (J := J) (R := R) (Q := Q) (N := N) ?_ 256 0 rfl
  · rw [cpR_0, tk_u1_id] at key; exact key
  · show tkDn tm_163 (27, [some (.inr (.inr (6, 0, 0))), some (.inl (nI 256))], [], (I, tk_so J 6 0 (tk_u1 N 28 (cpR (N 24) (N 28) 256)), R)) _
    obtain ⟨N1, hN1⟩ : ∃ N1, N1 = tk_u1 N 28 (cpR (N 24) (N 28) 256) := ⟨_, rfl⟩
    rw [← hN1]
    show tkDn tm_163 (27, [some (.inr (.inr (6, 0, 0))), some (.inl (nI 256))], [], (I, tk_so J 6 0 N1, R)) _
    refine dn_run 2 (show tkDn tm_163 (29, [some (.inr (.inr (6, 0, 0))), some (.inl 0)], [], (I, tk_so J 6 0 N1, R)) _ from ?_)
    have key2 := sm_see_2 (I := I) (J := J) (R := R) (Q := Q) (N := N1) ?_ 96 0 rfl
    · rw [cpR_0, tk_u1_id] at key2; exact key2
    · show tkDn tm_163 (53, [some (.inr (.inr (6, 0, 0))), some (.inl (nI 96))], [], (I, tk_so J 6 0 (tk_u1 N1 29 (cpR (N1 25) (N1 29) 96)), R)) _
      refine dn_ret0 rfl rfl rfl rfl ?_
      refine hQ _ (fun j hj => ?_) (fun j hj => ?_) (fun s h1 h2 => ?_)
      · rw [tk_u1_ne (by decide), hN1, tk_u1_same]; exact if_pos hj
      · rw [tk_u1_same]; show (if j < 96 then _ else _) = _; rw [if_pos hj, hN1, tk_u1_ne (by decide)]
      · rw [tk_u1_ne h2, hN1, tk_u1_ne h1]
