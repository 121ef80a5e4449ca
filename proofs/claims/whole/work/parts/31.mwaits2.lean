/-! the reference: closesEdges -/
set_option maxRecDepth 8000 in
theorem sm_ce_1 {I : tkI} {J : tkJ} {R : Nat → Nat} {Q : tkQ} {N : Nat → Nat → Int64} (hK : tkDn tm_166 (27, [some (.inr (.inr (6, 0, 0))), some (.inl (nI 256)), none], [], (I, tk_so J 6 0 (tk_u1 N 21 (cpR (N 24) (N 21) 256)), R)) Q) : ∀ m i, i + m = 256 → tkDn tm_166 (2, [some (.inr (.inr (6, 0, 0))), some (.inl (nI i)), none], [], (I, tk_so J 6 0 (tk_u1 N 21 (cpR (N 24) (N 21) i)), R)) Q := by
  intro m
  induction m with
  | zero =>
    intro i hi
    have hi : i = 256 := by omega
    subst hi
    show tkDn tm_166 (2, [some (.inr (.inr (6, 0, 0))), some (.inl (nI 256)), none], [], (I, tk_so J 6 0 (tk_u1 N 21 (cpR (N 24) (N 21) 256)), R)) _
    refine dn_run 2 (show tkDn tm_166 (6, [some (.inr (.inr (6, 0, 0))), some (.inl (nI 256)), none], [.inl 256, .inl (nI 256)], (I, tk_so J 6 0 (tk_u1 N 21 (cpR (N 24) (N 21) 256)), R)) _ from ?_)
    refine dn_if rfl rfl rfl (fun (c : 256 ≤ (nI 256)) => ?_) (fun (c : ¬ 256 ≤ (nI 256)) => ?_)
    · exact hK
    · exact absurd (by decide) c
  | succ m ih =>
    intro i hi
    show tkDn tm_166 (2, [some (.inr (.inr (6, 0, 0))), some (.inl (nI i)), none], [], (I, tk_so J 6 0 (tk_u1 N 21 (cpR (N 24) (N 21) i)), R)) _
    refine dn_run 2 (show tkDn tm_166 (6, [some (.inr (.inr (6, 0, 0))), some (.inl (nI i)), none], [.inl 256, .inl (nI i)], (I, tk_so J 6 0 (tk_u1 N 21 (cpR (N 24) (N 21) i)), R)) _ from ?_)
    refine dn_if rfl rfl rfl (fun (c : 256 ≤ (nI i)) => ?_) (fun (c : ¬ 256 ≤ (nI i)) => ?_)
    · exact absurd c (nI_ge (b := 256) (by omega) (by omega))
    · show tkDn tm_166 (9, [some (.inr (.inr (6, 0, 0))), some (.inl (nI i)), none], [], (I, tk_so J 6 0 (tk_u1 N 21 (cpR (N 24) (N 21) i)), R)) _
      refine dn_run 10 (show (vp_in (nI i) 256) ∧ (vp_in (nI i) 256) ∧ tkDn tm_166 (2, [some (.inr (.inr (6, 0, 0))), some (.inl ((nI i) + 1)), none], [], (I, tk_so (tk_so J 6 0 (tk_u1 N 21 (cpR (N 24) (N 21) i))) 6 0 (tk_u2 (tk_u1 N 21 (cpR (N 24) (N 21) i)) 21 ((nI i).toNatClampNeg) (N 24 ((nI i).toNatClampNeg))), R)) _ from ⟨vp_in_nI (by omega) (by omega), vp_in_nI (by omega) (by omega), ?_⟩)
      rw [tk_so_so]
      rw [tk_u2_u1, nI_clamp (show i < 2 ^ 31 by omega), cpR_s, nI_1]
      exact ih (i + 1) (by omega)
set_option maxRecDepth 8000 in
theorem sm_ce_2 {I : tkI} {J : tkJ} {R : Nat → Nat} {Q : tkQ} {N : Nat → Nat → Int64} {gd : Int32} (hK : tkDn tm_166 (63, [some (.inr (.inr (6, 0, 0))), some (.inl gd), some (.inl (nI 256))], [], (I, tk_so J 6 0 (tk_u1 N 24 (cpR (N 21) (N 24) 256)), R)) Q) : ∀ m i, i + m = 256 → tkDn tm_166 (38, [some (.inr (.inr (6, 0, 0))), some (.inl gd), some (.inl (nI i))], [], (I, tk_so J 6 0 (tk_u1 N 24 (cpR (N 21) (N 24) i)), R)) Q := by
  intro m
  induction m with
  | zero =>
    intro i hi
    have hi : i = 256 := by omega
    subst hi
    show tkDn tm_166 (38, [some (.inr (.inr (6, 0, 0))), some (.inl gd), some (.inl (nI 256))], [], (I, tk_so J 6 0 (tk_u1 N 24 (cpR (N 21) (N 24) 256)), R)) _
    refine dn_run 2 (show tkDn tm_166 (42, [some (.inr (.inr (6, 0, 0))), some (.inl gd), some (.inl (nI 256))], [.inl 256, .inl (nI 256)], (I, tk_so J 6 0 (tk_u1 N 24 (cpR (N 21) (N 24) 256)), R)) _ from ?_)
    refine dn_if rfl rfl rfl (fun (c : 256 ≤ (nI 256)) => ?_) (fun (c : ¬ 256 ≤ (nI 256)) => ?_)
    · exact hK
    · exact absurd (by decide) c
  | succ m ih =>
    intro i hi
    show tkDn tm_166 (38, [some (.inr (.inr (6, 0, 0))), some (.inl gd), some (.inl (nI i))], [], (I, tk_so J 6 0 (tk_u1 N 24 (cpR (N 21) (N 24) i)), R)) _
    refine dn_run 2 (show tkDn tm_166 (42, [some (.inr (.inr (6, 0, 0))), some (.inl gd), some (.inl (nI i))], [.inl 256, .inl (nI i)], (I, tk_so J 6 0 (tk_u1 N 24 (cpR (N 21) (N 24) i)), R)) _ from ?_)
    refine dn_if rfl rfl rfl (fun (c : 256 ≤ (nI i)) => ?_) (fun (c : ¬ 256 ≤ (nI i)) => ?_)
    · exact absurd c (nI_ge (b := 256) (by omega) (by omega))
    · show tkDn tm_166 (45, [some (.inr (.inr (6, 0, 0))), some (.inl gd), some (.inl (nI i))], [], (I, tk_so J 6 0 (tk_u1 N 24 (cpR (N 21) (N 24) i)), R)) _
      refine dn_run 10 (show (vp_in (nI i) 256) ∧ (vp_in (nI i) 256) ∧ tkDn tm_166 (38, [some (.inr (.inr (6, 0, 0))), some (.inl gd), some (.inl ((nI i) + 1))], [], (I, tk_so (tk_so J 6 0 (tk_u1 N 24 (cpR (N 21) (N 24) i))) 6 0 (tk_u2 (tk_u1 N 24 (cpR (N 21) (N 24) i)) 24 ((nI i).toNatClampNeg) (N 21 ((nI i).toNatClampNeg))), R)) _ from ⟨vp_in_nI (by omega) (by omega), vp_in_nI (by omega) (by omega), ?_⟩)
      rw [tk_so_so]
      rw [tk_u2_u1, nI_clamp (show i < 2 ^ 31 by omega), cpR_s, nI_1]
      exact ih (i + 1) (by omega)
set_option maxRecDepth 8000 in
theorem sm_closesEdges {I : tkI} {J : tkJ} {R : Nat → Nat} {Q : tkQ} {S : tkS} (hP : NetP (I 6 0) S) (w : WF S) {e : tkD} {N : Nat → Nat → Int64} (he : RowP 16 (N 24) e) (hQ : ∀ N2, RowP 16 (N2 24) (mcF e (sM S)).2 → (∀ s, s ≠ 21 → s ≠ 24 → N2 s = N s) → Q (some (.inl (if (mcF e (sM S)).1 = true then 1 else 0))) (I, tk_so J 6 0 N2, R)) : tkDn tm_166 (0, [some (.inr (.inr (6, 0, 0))), none, none], [], (I, tk_so J 6 0 N, R)) Q := by
  have hM16 := w.1
  have hM := hP.m
  refine dn_run 2 (show tkDn tm_166 (2, [some (.inr (.inr (6, 0, 0))), some (.inl 0), none], [], (I, tk_so J 6 0 N, R)) _ from ?_)
  have key := sm_ce_1 (I := I) (J := J) (R := R) (Q := Q) (N := N) ?_ 256 0 rfl
  · rw [cpR_0, tk_u1_id] at key; exact key
  · show tkDn tm_166 (27, [some (.inr (.inr (6, 0, 0))), some (.inl (nI 256)), none], [], (I, tk_so J 6 0 (tk_u1 N 21 (cpR (N 24) (N 21) 256)), R)) _
    obtain ⟨N1, hN1⟩ : ∃ N1, N1 = tk_u1 N 21 (cpR (N 24) (N 21) 256) := ⟨_, rfl⟩
    rw [← hN1]
    show tkDn tm_166 (27, [some (.inr (.inr (6, 0, 0))), some (.inl (nI 256)), none], [], (I, tk_so J 6 0 N1, R)) _
    have hr : RowP 16 (tk_so J 6 0 N1 6 0 21) e := by rw [tk_so_same, hN1, tk_u1_same]; exact he.cp (fun j hj => if_pos hj)
    refine dn_run 3 (show tkDn tm_166 (32, [some (.inr (.inr (6, 0, 0))), some (.inl (nI 256)), none], [.inl (I 6 0 0 0), .inr (.inr (6, 0, 0))], (I, tk_so J 6 0 N1, R)) _ from ?_)
    rw [hM]
    show tkDn tm_166 (32, [some (.inr (.inr (6, 0, 0))), some (.inl (nI 256)), none], [.inl (nI (sM S)), .inr (.inr (6, 0, 0))], (I, tk_so J 6 0 N1, R)) _
    refine dn_call rfl rfl rfl rfl rfl (sm_closes (d := e) (M := 16) hM16 (Nat.le_refl _) hr (fun r3 hr3 => ?_))
    rw [tk_so_so, tk_so_same]
    show tkDn tm_166 (35, [some (.inr (.inr (6, 0, 0))), some (.inl (nI 256)), none], [.inl (if (mcF e (sM S)).1 = true then 1 else 0)], (I, tk_so J 6 0 (tk_u1 N1 21 r3), R)) _
    obtain ⟨N2, hN2⟩ : ∃ N2, N2 = tk_u1 N1 21 r3 := ⟨_, rfl⟩
    rw [← hN2]
    show tkDn tm_166 (35, [some (.inr (.inr (6, 0, 0))), some (.inl (nI 256)), none], [.inl (if (mcF e (sM S)).1 = true then 1 else 0)], (I, tk_so J 6 0 N2, R)) _
    refine dn_run 3 (show tkDn tm_166 (38, [some (.inr (.inr (6, 0, 0))), some (.inl (if (mcF e (sM S)).1 = true then 1 else 0)), some (.inl 0)], [], (I, tk_so J 6 0 N2, R)) _ from ?_)
    have key2 := sm_ce_2 (I := I) (J := J) (R := R) (Q := Q) (N := N2) (gd := if (mcF e (sM S)).1 = true then 1 else 0) ?_ 256 0 rfl
    · rw [cpR_0, tk_u1_id] at key2; exact key2
    · show tkDn tm_166 (63, [some (.inr (.inr (6, 0, 0))), some (.inl (if (mcF e (sM S)).1 = true then 1 else 0)), some (.inl (nI 256))], [], (I, tk_so J 6 0 (tk_u1 N2 24 (cpR (N2 21) (N2 24) 256)), R)) _
      refine dn_run 1 (show tkDn tm_166 (64, [some (.inr (.inr (6, 0, 0))), some (.inl (if (mcF e (sM S)).1 = true then 1 else 0)), some (.inl (nI 256))], [.inl (if (mcF e (sM S)).1 = true then 1 else 0)], (I, tk_so J 6 0 (tk_u1 N2 24 (cpR (N2 21) (N2 24) 256)), R)) _ from ?_)
      refine dn_retb rfl rfl rfl rfl (by by_cases z : (mcF e (sM S)).1 = true; exact Or.inr (if_pos z); exact Or.inl (if_neg z)) ?_
      refine hQ _ ?_ (fun s h1 h2 => ?_)
      · rw [tk_u1_same]
        refine hr3.cp (fun j hj => ?_)
        show (if j < 256 then _ else _) = _
        rw [if_pos hj, hN2, tk_u1_same]
      · rw [tk_u1_ne h2, hN2, tk_u1_ne h1, hN1, tk_u1_ne h1]
