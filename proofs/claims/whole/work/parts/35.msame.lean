/-! the reference: isAsItWas -/
set_option maxRecDepth 8000 in
theorem sm_as1 {I : tkI} {J : tkJ} {R : Nat → Nat} {Q : tkQ} : ∀ m j (g : Int32), j + m = 256 → (g = 0 ∨ g = 1) → tkDn tm_171 (43, [some (.inr (.inr (6, 0, 0))), some (.inl (if g = 1 ∧ smF (J 6 0 24) (J 6 0 26) m j = true then 1 else 0)), some (.inl (nI 256))], [], (I, J, R)) Q → tkDn tm_171 (4, [some (.inr (.inr (6, 0, 0))), some (.inl g), some (.inl (nI j))], [], (I, J, R)) Q := by
  intro m
  induction m with
  | zero =>
    intro j g hj hg hK
    have hj : j = 256 := by omega
    subst hj
    have e : (if g = 1 ∧ smF (J 6 0 24) (J 6 0 26) 0 256 = true then (1 : Int32) else 0) = g := by rcases hg with rfl | rfl <;> rfl
    rw [e] at hK
    show tkDn tm_171 (4, [some (.inr (.inr (6, 0, 0))), some (.inl g), some (.inl (nI 256))], [], (I, J, R)) _
    refine dn_run 2 (show tkDn tm_171 (8, [some (.inr (.inr (6, 0, 0))), some (.inl g), some (.inl (nI 256))], [.inl 256, .inl (nI 256)], (I, J, R)) _ from ?_)
    refine dn_if rfl rfl rfl (fun (c : 256 ≤ (nI 256)) => ?_) (fun (c : ¬ 256 ≤ (nI 256)) => ?_)
    · exact hK
    · exact absurd (by decide) c
  | succ m ih =>
    intro j g hj hg hK
    show tkDn tm_171 (4, [some (.inr (.inr (6, 0, 0))), some (.inl g), some (.inl (nI j))], [], (I, J, R)) _
    refine dn_run 2 (show tkDn tm_171 (8, [some (.inr (.inr (6, 0, 0))), some (.inl g), some (.inl (nI j))], [.inl 256, .inl (nI j)], (I, J, R)) _ from ?_)
    refine dn_if rfl rfl rfl (fun (c : 256 ≤ (nI j)) => ?_) (fun (c : ¬ 256 ≤ (nI j)) => ?_)
    · exact absurd c (nI_ge (b := 256) (by omega) (by omega))
    · show tkDn tm_171 (11, [some (.inr (.inr (6, 0, 0))), some (.inl g), some (.inl (nI j))], [], (I, J, R)) _
      refine dn_run 1 (show tkDn tm_171 (12, [some (.inr (.inr (6, 0, 0))), some (.inl g), some (.inl (nI j))], [.inl g], (I, J, R)) _ from ?_)
      refine dn_if rfl rfl rfl (fun (c1 : g = 0) => ?_) (fun (c1 : ¬ g = 0) => ?_)
      · show tkDn tm_171 (35, [some (.inr (.inr (6, 0, 0))), some (.inl g), some (.inl (nI j))], [], (I, J, R)) _
        refine dn_run 4 (show tkDn tm_171 (4, [some (.inr (.inr (6, 0, 0))), some (.inl 0), some (.inl ((nI j) + 1))], [], (I, J, R)) _ from ?_)
        rw [nI_1]
        refine ih (j + 1) 0 (by omega) (Or.inl rfl) ?_
        rw [if_neg (fun q => absurd q.1 (by decide))]
        rw [if_neg (fun q => absurd q.1 (by rw [c1]; decide))] at hK
        exact hK
      · show tkDn tm_171 (15, [some (.inr (.inr (6, 0, 0))), some (.inl g), some (.inl (nI j))], [], (I, J, R)) _
        have hg1 : g = 1 := hg.resolve_left c1
        refine dn_run 9 (show (vp_in (nI j) 256) ∧ (vp_in (nI j) 256) ∧ tkDn tm_171 (28, [some (.inr (.inr (6, 0, 0))), some (.inl g), some (.inl (nI j))], [.inl (lg_cmp (J 6 0 24 ((nI j).toNatClampNeg)) (J 6 0 26 ((nI j).toNatClampNeg)))], (I, J, R)) _ from ⟨vp_in_nI (by omega) (by omega), vp_in_nI (by omega) (by omega), ?_⟩)
        rw [nI_clamp (show j < 2 ^ 31 by omega)]
        refine dn_if rfl rfl rfl (fun (c2 : ¬ (lg_cmp (J 6 0 24 j) (J 6 0 26 j)) = 0) => ?_) (fun (c2 : (lg_cmp (J 6 0 24 j) (J 6 0 26 j)) = 0) => ?_)
        · show tkDn tm_171 (35, [some (.inr (.inr (6, 0, 0))), some (.inl g), some (.inl (nI j))], [], (I, J, R)) _
          refine dn_run 4 (show tkDn tm_171 (4, [some (.inr (.inr (6, 0, 0))), some (.inl 0), some (.inl ((nI j) + 1))], [], (I, J, R)) _ from ?_)
          rw [nI_1]
          refine ih (j + 1) 0 (by omega) (Or.inl rfl) ?_
          rw [if_neg (fun q => absurd q.1 (by decide))]
          rw [if_neg (fun q => by rw [show smF (J 6 0 24) (J 6 0 26) (m + 1) j = false from if_neg (fun z => c2 ((lg_cmp_eq _ _).mpr z))] at q; exact absurd q.2 (by decide))] at hK
          exact hK
        · show tkDn tm_171 (31, [some (.inr (.inr (6, 0, 0))), some (.inl g), some (.inl (nI j))], [], (I, J, R)) _
          refine dn_run 5 (show tkDn tm_171 (4, [some (.inr (.inr (6, 0, 0))), some (.inl 1), some (.inl ((nI j) + 1))], [], (I, J, R)) _ from ?_)
          rw [nI_1]
          refine ih (j + 1) 1 (by omega) (Or.inr rfl) ?_
          rw [show smF (J 6 0 24) (J 6 0 26) (m + 1) j = smF (J 6 0 24) (J 6 0 26) m (j + 1) from if_pos ((lg_cmp_eq _ _).mp c2), hg1] at hK
          exact hK
set_option maxRecDepth 8000 in
theorem sm_as2 {I : tkI} {J : tkJ} {R : Nat → Nat} {Q : tkQ} : ∀ m j (g : Int32), j + m = 96 → (g = 0 ∨ g = 1) → tkDn tm_171 (83, [some (.inr (.inr (6, 0, 0))), some (.inl (if g = 1 ∧ smF (J 6 0 25) (J 6 0 27) m j = true then 1 else 0)), some (.inl (nI 96))], [], (I, J, R)) Q → tkDn tm_171 (45, [some (.inr (.inr (6, 0, 0))), some (.inl g), some (.inl (nI j))], [], (I, J, R)) Q := by
  intro m
  induction m with
  | zero =>
    intro j g hj hg hK
    have hj : j = 96 := by omega
    subst hj
    have e : (if g = 1 ∧ smF (J 6 0 25) (J 6 0 27) 0 96 = true then (1 : Int32) else 0) = g := by rcases hg with rfl | rfl <;> rfl
    rw [e] at hK
    show tkDn tm_171 (45, [some (.inr (.inr (6, 0, 0))), some (.inl g), some (.inl (nI 96))], [], (I, J, R)) _
    refine dn_run 2 (show tkDn tm_171 (48, [some (.inr (.inr (6, 0, 0))), some (.inl g), some (.inl (nI 96))], [.inl 96, .inl (nI 96)], (I, J, R)) _ from ?_)
    refine dn_if rfl rfl rfl (fun (c : 96 ≤ (nI 96)) => ?_) (fun (c : ¬ 96 ≤ (nI 96)) => ?_)
    · exact hK
    · exact absurd (by decide) c
  | succ m ih =>
    intro j g hj hg hK
    show tkDn tm_171 (45, [some (.inr (.inr (6, 0, 0))), some (.inl g), some (.inl (nI j))], [], (I, J, R)) _
    refine dn_run 2 (show tkDn tm_171 (48, [some (.inr (.inr (6, 0, 0))), some (.inl g), some (.inl (nI j))], [.inl 96, .inl (nI j)], (I, J, R)) _ from ?_)
    refine dn_if rfl rfl rfl (fun (c : 96 ≤ (nI j)) => ?_) (fun (c : ¬ 96 ≤ (nI j)) => ?_)
    · exact absurd c (nI_ge (b := 96) (by omega) (by omega))
    · show tkDn tm_171 (51, [some (.inr (.inr (6, 0, 0))), some (.inl g), some (.inl (nI j))], [], (I, J, R)) _
      refine dn_run 1 (show tkDn tm_171 (52, [some (.inr (.inr (6, 0, 0))), some (.inl g), some (.inl (nI j))], [.inl g], (I, J, R)) _ from ?_)
      refine dn_if rfl rfl rfl (fun (c1 : g = 0) => ?_) (fun (c1 : ¬ g = 0) => ?_)
      · show tkDn tm_171 (75, [some (.inr (.inr (6, 0, 0))), some (.inl g), some (.inl (nI j))], [], (I, J, R)) _
        refine dn_run 4 (show tkDn tm_171 (45, [some (.inr (.inr (6, 0, 0))), some (.inl 0), some (.inl ((nI j) + 1))], [], (I, J, R)) _ from ?_)
        rw [nI_1]
        refine ih (j + 1) 0 (by omega) (Or.inl rfl) ?_
        rw [if_neg (fun q => absurd q.1 (by decide))]
        rw [if_neg (fun q => absurd q.1 (by rw [c1]; decide))] at hK
        exact hK
      · show tkDn tm_171 (55, [some (.inr (.inr (6, 0, 0))), some (.inl g), some (.inl (nI j))], [], (I, J, R)) _
        have hg1 : g = 1 := hg.resolve_left c1
        refine dn_run 9 (show (vp_in (nI j) 96) ∧ (vp_in (nI j) 96) ∧ tkDn tm_171 (68, [some (.inr (.inr (6, 0, 0))), some (.inl g), some (.inl (nI j))], [.inl (lg_cmp (J 6 0 25 ((nI j).toNatClampNeg)) (J 6 0 27 ((nI j).toNatClampNeg)))], (I, J, R)) _ from ⟨vp_in_nI (by omega) (by omega), vp_in_nI (by omega) (by omega), ?_⟩)
        rw [nI_clamp (show j < 2 ^ 31 by omega)]
        refine dn_if rfl rfl rfl (fun (c2 : ¬ (lg_cmp (J 6 0 25 j) (J 6 0 27 j)) = 0) => ?_) (fun (c2 : (lg_cmp (J 6 0 25 j) (J 6 0 27 j)) = 0) => ?_)
        · show tkDn tm_171 (75, [some (.inr (.inr (6, 0, 0))), some (.inl g), some (.inl (nI j))], [], (I, J, R)) _
          refine dn_run 4 (show tkDn tm_171 (45, [some (.inr (.inr (6, 0, 0))), some (.inl 0), some (.inl ((nI j) + 1))], [], (I, J, R)) _ from ?_)
          rw [nI_1]
          refine ih (j + 1) 0 (by omega) (Or.inl rfl) ?_
          rw [if_neg (fun q => absurd q.1 (by decide))]
          rw [if_neg (fun q => by rw [show smF (J 6 0 25) (J 6 0 27) (m + 1) j = false from if_neg (fun z => c2 ((lg_cmp_eq _ _).mpr z))] at q; exact absurd q.2 (by decide))] at hK
          exact hK
        · show tkDn tm_171 (71, [some (.inr (.inr (6, 0, 0))), some (.inl g), some (.inl (nI j))], [], (I, J, R)) _
          refine dn_run 5 (show tkDn tm_171 (45, [some (.inr (.inr (6, 0, 0))), some (.inl 1), some (.inl ((nI j) + 1))], [], (I, J, R)) _ from ?_)
          rw [nI_1]
          refine ih (j + 1) 1 (by omega) (Or.inr rfl) ?_
          rw [show smF (J 6 0 25) (J 6 0 27) (m + 1) j = smF (J 6 0 25) (J 6 0 27) m (j + 1) from if_pos ((lg_cmp_eq _ _).mp c2), hg1] at hK
          exact hK
set_option maxRecDepth 8000 in
theorem sm_isAsItWas {I : tkI} {J : tkJ} {R : Nat → Nat} {Q : tkQ} (hQ : Q (some (.inl (if smF (J 6 0 24) (J 6 0 26) 256 0 = true ∧ smF (J 6 0 25) (J 6 0 27) 96 0 = true then 1 else 0))) (I, J, R)) : tkDn tm_171 (0, [some (.inr (.inr (6, 0, 0))), none, none], [], (I, J, R)) Q := by
  refine dn_run 4 (show tkDn tm_171 (4, [some (.inr (.inr (6, 0, 0))), some (.inl 1), some (.inl 0)], [], (I, J, R)) _ from ?_)
  refine sm_as1 256 0 1 rfl (Or.inr rfl) ?_
  show tkDn tm_171 (43, [some (.inr (.inr (6, 0, 0))), some (.inl (if (1 : Int32) = 1 ∧ smF (J 6 0 24) (J 6 0 26) 256 0 = true then (1 : Int32) else 0)), some (.inl (nI 256))], [], (I, J, R)) _
  refine dn_run 2 (show tkDn tm_171 (45, [some (.inr (.inr (6, 0, 0))), some (.inl (if (1 : Int32) = 1 ∧ smF (J 6 0 24) (J 6 0 26) 256 0 = true then (1 : Int32) else 0)), some (.inl 0)], [], (I, J, R)) _ from ?_)
  refine sm_as2 96 0 _ rfl (by by_cases z : (1 : Int32) = 1 ∧ smF (J 6 0 24) (J 6 0 26) 256 0 = true; exact Or.inr (if_pos z); exact Or.inl (if_neg z)) ?_
  show tkDn tm_171 (83, [some (.inr (.inr (6, 0, 0))), some (.inl (if (if (1 : Int32) = 1 ∧ smF (J 6 0 24) (J 6 0 26) 256 0 = true then (1 : Int32) else 0) = 1 ∧ smF (J 6 0 25) (J 6 0 27) 96 0 = true then (1 : Int32) else 0)), some (.inl (nI 96))], [], (I, J, R)) _
  refine dn_run 1 (show tkDn tm_171 (84, [some (.inr (.inr (6, 0, 0))), some (.inl (if (if (1 : Int32) = 1 ∧ smF (J 6 0 24) (J 6 0 26) 256 0 = true then (1 : Int32) else 0) = 1 ∧ smF (J 6 0 25) (J 6 0 27) 96 0 = true then (1 : Int32) else 0)), some (.inl (nI 96))], [.inl (if (if (1 : Int32) = 1 ∧ smF (J 6 0 24) (J 6 0 26) 256 0 = true then (1 : Int32) else 0) = 1 ∧ smF (J 6 0 25) (J 6 0 27) 96 0 = true then (1 : Int32) else 0)], (I, J, R)) _ from ?_)
  have e : (if (if (1 : Int32) = 1 ∧ smF (J 6 0 24) (J 6 0 26) 256 0 = true then (1 : Int32) else 0) = 1 ∧ smF (J 6 0 25) (J 6 0 27) 96 0 = true then (1 : Int32) else 0) = if smF (J 6 0 24) (J 6 0 26) 256 0 = true ∧ smF (J 6 0 25) (J 6 0 27) 96 0 = true then 1 else 0 := by
    cases smF (J 6 0 24) (J 6 0 26) 256 0 <;> cases smF (J 6 0 25) (J 6 0 27) 96 0 <;> decide
  rw [e]
  refine dn_retb rfl rfl rfl rfl (by by_cases z : smF (J 6 0 24) (J 6 0 26) 256 0 = true ∧ smF (J 6 0 25) (J 6 0 27) 96 0 = true; exact Or.inr (if_pos z); exact Or.inl (if_neg z)) ?_
  exact hQ
