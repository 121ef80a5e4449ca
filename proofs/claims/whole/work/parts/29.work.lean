/-! Waits.work, isLively, roundCount -/
set_option maxRecDepth 8000 in
theorem sw_work_end {I : tkI} {J : tkJ} {R : Nat → Nat} {Q : tkQ} {b : Nat} {S : tkS} {x : Int32} {k : Nat} {e v : tkD} {X : Nat → Nat → Int32} {N : Nat → Nat → Int64} {o : Option tkV} (h : WkP S x k e v) (h8 : X 0 8 = nI k) (he : RowP 16 (N 1) e) (hv : WRow (N 4) v) (hQ : ∀ X N, ¬ X 0 6 = 0 → KnS S X N → Q none (tk_so I 4 0 X, tk_so J 4 0 N, R)) : tkDn tm_86 (58, [some (.inr (.inr (4, 0, 0))), some (.inr (.inr (1, b, 0))), some (.inl x), o], [], (tk_so I 4 0 X, tk_so J 4 0 N, R)) Q := by
  refine dn_run 3 (show tkDn tm_86 (61, [some (.inr (.inr (4, 0, 0))), some (.inr (.inr (1, b, 0))), some (.inl x), o], [.inl 1, .inl x, .inr (.inr (4, 0, 0))], (tk_so I 4 0 X, tk_so J 4 0 N, R)) _ from ?_)
  refine dn_if rfl rfl rfl (fun (c : ¬ x = 1) => ?_) (fun (c : x = 1) => ?_)
  · show tkDn tm_86 (68, [some (.inr (.inr (4, 0, 0))), some (.inr (.inr (1, b, 0))), some (.inl x), o], [.inr (.inr (4, 0, 0))], (tk_so I 4 0 X, tk_so J 4 0 N, R)) _
    refine dn_run 5 (show (0 = 0 ∨ 0 = 1) ∧ (1 = 0 ∨ 1 = 1) ∧ tkDn tm_86 (77, [some (.inr (.inr (4, 0, 0))), some (.inr (.inr (1, b, 0))), some (.inl x), o], [], (tk_so (tk_so (tk_so I 4 0 X) 4 0 (tk_u2 X 0 7 0)) 4 0 (tk_u2 (tk_u2 X 0 7 0) 0 6 1), tk_so J 4 0 N, R)) _ from ⟨Or.inl rfl, Or.inr rfl, ?_⟩)
    rw [tk_so_so, tk_so_so]
    refine dn_ret0 rfl rfl rfl rfl ?_
    exact hQ _ _ (by rw [tk_u2_1]; decide) ⟨x, k, e, v, h, by rw [tk_u2_0 (by decide), tk_u2_1, if_neg c], by rw [tk_u2_0 (by decide), tk_u2_0 (by decide)]; exact h8, he, hv⟩
  · show tkDn tm_86 (64, [some (.inr (.inr (4, 0, 0))), some (.inr (.inr (1, b, 0))), some (.inl x), o], [.inr (.inr (4, 0, 0))], (tk_so I 4 0 X, tk_so J 4 0 N, R)) _
    refine dn_run 6 (show (1 = 0 ∨ 1 = 1) ∧ (1 = 0 ∨ 1 = 1) ∧ tkDn tm_86 (77, [some (.inr (.inr (4, 0, 0))), some (.inr (.inr (1, b, 0))), some (.inl x), o], [], (tk_so (tk_so (tk_so I 4 0 X) 4 0 (tk_u2 X 0 7 1)) 4 0 (tk_u2 (tk_u2 X 0 7 1) 0 6 1), tk_so J 4 0 N, R)) _ from ⟨Or.inr rfl, Or.inr rfl, ?_⟩)
    rw [tk_so_so, tk_so_so]
    refine dn_ret0 rfl rfl rfl rfl ?_
    exact hQ _ _ (by rw [tk_u2_1]; decide) ⟨x, k, e, v, h, by rw [tk_u2_0 (by decide), tk_u2_1, if_pos c], by rw [tk_u2_0 (by decide), tk_u2_0 (by decide)]; exact h8, he, hv⟩
set_option maxRecDepth 8000 in
theorem sw_work_loop {I : tkI} {J : tkJ} {R : Nat → Nat} {Q : tkQ} {b : Nat} {S : tkS} (hP : NetP (I 1 b) S) (w : WF S) (hQ : ∀ X N, ¬ X 0 6 = 0 → KnS S X N → Q none (tk_so I 4 0 X, tk_so J 4 0 N, R)) : ∀ m k x e v X N, k + m = 400 → RunP S k x e v → X 0 8 = nI k → RowP 16 (N 1) e → WRow (N 4) v → tkDn tm_86 (30, [some (.inr (.inr (4, 0, 0))), some (.inr (.inr (1, b, 0))), some (.inl x), some (.inl (nI (k + 1)))], [], (tk_so I 4 0 X, tk_so J 4 0 N, R)) Q := by
  intro m
  induction m with
  | zero =>
    intro k x e v X N hk hr h8 he hv
    show tkDn tm_86 (30, [some (.inr (.inr (4, 0, 0))), some (.inr (.inr (1, b, 0))), some (.inl x), some (.inl (nI (k + 1)))], [], (tk_so I 4 0 X, tk_so J 4 0 N, R)) _
    refine dn_run 2 (show tkDn tm_86 (34, [some (.inr (.inr (4, 0, 0))), some (.inr (.inr (1, b, 0))), some (.inl x), some (.inl (nI (k + 1)))], [.inl 400, .inl (nI (k + 1))], (tk_so I 4 0 X, tk_so J 4 0 N, R)) _ from ?_)
    refine dn_if rfl rfl rfl (fun (c : 400 < (nI (k + 1))) => ?_) (fun (c : ¬ 400 < (nI (k + 1))) => ?_)
    · show tkDn tm_86 (58, [some (.inr (.inr (4, 0, 0))), some (.inr (.inr (1, b, 0))), some (.inl x), some (.inl (nI (k + 1)))], [], (tk_so I 4 0 X, tk_so J 4 0 N, R)) _
      exact sw_work_end ⟨hr, by omega, Or.inr (by omega)⟩ h8 he hv hQ
    · exact absurd (nI_lt (a := 400) (by omega) (by omega)) c
  | succ m ih =>
    intro k x e v X N hk hr h8 he hv
    have hPX : NetP (tk_so I 4 0 X 1 b) S := by rw [tk_so_ne (by omega)]; exact hP
    show tkDn tm_86 (30, [some (.inr (.inr (4, 0, 0))), some (.inr (.inr (1, b, 0))), some (.inl x), some (.inl (nI (k + 1)))], [], (tk_so I 4 0 X, tk_so J 4 0 N, R)) _
    refine dn_run 2 (show tkDn tm_86 (34, [some (.inr (.inr (4, 0, 0))), some (.inr (.inr (1, b, 0))), some (.inl x), some (.inl (nI (k + 1)))], [.inl 400, .inl (nI (k + 1))], (tk_so I 4 0 X, tk_so J 4 0 N, R)) _ from ?_)
    refine dn_if rfl rfl rfl (fun (c : 400 < (nI (k + 1))) => ?_) (fun (c : ¬ 400 < (nI (k + 1))) => ?_)
    · exact absurd c (nI_nlt (a := 400) (by omega) (by omega))
    · show tkDn tm_86 (37, [some (.inr (.inr (4, 0, 0))), some (.inr (.inr (1, b, 0))), some (.inl x), some (.inl (nI (k + 1)))], [], (tk_so I 4 0 X, tk_so J 4 0 N, R)) _
      refine dn_run 1 (show tkDn tm_86 (38, [some (.inr (.inr (4, 0, 0))), some (.inr (.inr (1, b, 0))), some (.inl x), some (.inl (nI (k + 1)))], [.inl x], (tk_so I 4 0 X, tk_so J 4 0 N, R)) _ from ?_)
      refine dn_if rfl rfl rfl (fun (c2 : ¬ x = 0) => ?_) (fun (c2 : x = 0) => ?_)
      · show tkDn tm_86 (58, [some (.inr (.inr (4, 0, 0))), some (.inr (.inr (1, b, 0))), some (.inl x), some (.inl (nI (k + 1)))], [], (tk_so I 4 0 X, tk_so J 4 0 N, R)) _
        exact sw_work_end ⟨hr, by omega, Or.inl c2⟩ h8 he hv hQ
      · show tkDn tm_86 (41, [some (.inr (.inr (4, 0, 0))), some (.inr (.inr (1, b, 0))), some (.inl x), some (.inl (nI (k + 1)))], [], (tk_so I 4 0 X, tk_so J 4 0 N, R)) _
        subst c2
        show tkDn tm_86 (41, [some (.inr (.inr (4, 0, 0))), some (.inr (.inr (1, b, 0))), some (.inl 0), some (.inl (nI (k + 1)))], [], (tk_so I 4 0 X, tk_so J 4 0 N, R)) _
        refine dn_run 2 (show tkDn tm_86 (43, [some (.inr (.inr (4, 0, 0))), some (.inr (.inr (1, b, 0))), some (.inl 0), some (.inl (nI (k + 1)))], [.inr (.inr (1, b, 0)), .inr (.inr (4, 0, 0))], (tk_so I 4 0 X, tk_so J 4 0 N, R)) _ from ?_)
        refine dn_call rfl rfl rfl rfl rfl (sw_doRound hPX w he hv (fun N2 {x2 e2 v2} he2 hv2 hd => ?_))
        show tkDn tm_86 (46, [some (.inr (.inr (4, 0, 0))), some (.inr (.inr (1, b, 0))), some (.inl 0), some (.inl (nI (k + 1)))], [.inl x2], (tk_so I 4 0 X, tk_so J 4 0 N2, R)) _
        refine dn_run 6 (show tkDn tm_86 (30, [some (.inr (.inr (4, 0, 0))), some (.inr (.inr (1, b, 0))), some (.inl x2), some (.inl ((nI (k + 1)) + 1))], [], (tk_so (tk_so I 4 0 X) 4 0 (tk_u2 X 0 8 (nI (k + 1))), tk_so J 4 0 N2, R)) _ from ?_)
        rw [tk_so_so]
        rw [nI_1]
        exact ih (k + 1) x2 e2 v2 _ N2 (by omega) ⟨e, v, hr, hd⟩ (by rw [tk_u2_1]) he2 hv2
set_option maxRecDepth 8000 in
theorem sw_work {I : tkI} {J : tkJ} {R : Nat → Nat} {Q : tkQ} {b : Nat} {S : tkS} (hP : NetP (I 1 b) S) (w : WF S) (hk : ¬ I 4 0 0 6 = 0 → KnS S (I 4 0) (J 4 0)) (hQ : ∀ X N, ¬ X 0 6 = 0 → KnS S X N → Q none (tk_so I 4 0 X, tk_so J 4 0 N, R)) : tkDn tm_86 (0, [some (.inr (.inr (4, 0, 0))), some (.inr (.inr (1, b, 0))), none, none], [], (I, J, R)) Q := by
  refine dn_run 2 (show tkDn tm_86 (4, [some (.inr (.inr (4, 0, 0))), some (.inr (.inr (1, b, 0))), none, none], [.inl (I 4 0 0 6)], (I, J, R)) _ from ?_)
  refine dn_if rfl rfl rfl (fun (c : (I 4 0 0 6) = 0) => ?_) (fun (c : ¬ (I 4 0 0 6) = 0) => ?_)
  · show tkDn tm_86 (8, [some (.inr (.inr (4, 0, 0))), some (.inr (.inr (1, b, 0))), none, none], [], (I, J, R)) _
    refine dn_run 3 (show tkDn tm_86 (13, [some (.inr (.inr (4, 0, 0))), some (.inr (.inr (1, b, 0))), none, none], [.inr (.inr (4, 0, 1)), .inr (.inr (1, b, 0))], (I, J, R)) _ from ?_)
    refine dn_call rfl rfl rfl rfl rfl (ss_ofAllLinks_4_1 hP w (fun r hr => ?_))
    show tkDn tm_86 (16, [some (.inr (.inr (4, 0, 0))), some (.inr (.inr (1, b, 0))), none, none], [], (I, tk_so J 4 0 (tk_u1 (J 4 0) 1 r), R)) _
    refine dn_run 2 (show tkDn tm_86 (18, [some (.inr (.inr (4, 0, 0))), some (.inr (.inr (1, b, 0))), none, none], [.inr (.inr (1, b, 0)), .inr (.inr (4, 0, 0))], (I, tk_so J 4 0 (tk_u1 (J 4 0) 1 r), R)) _ from ?_)
    refine dn_call rfl rfl rfl rfl rfl (sw_beginDelays hP w (fun r2 hr2 => ?_))
    rw [tk_so_so, tk_so_same]
    show tkDn tm_86 (21, [some (.inr (.inr (4, 0, 0))), some (.inr (.inr (1, b, 0))), none, none], [], (I, tk_so J 4 0 (tk_u1 (tk_u1 (J 4 0) 1 r) 4 r2), R)) _
    refine dn_run 7 (show tkDn tm_86 (30, [some (.inr (.inr (4, 0, 0))), some (.inr (.inr (1, b, 0))), some (.inl 0), some (.inl 1)], [], (tk_so I 4 0 (tk_u2 (I 4 0) 0 8 0), tk_so J 4 0 (tk_u1 (tk_u1 (J 4 0) 1 r) 4 r2), R)) _ from ?_)
    exact sw_work_loop hP w hQ 400 0 0 _ _ _ _ rfl ⟨rfl, rfl, rfl⟩ (by rw [tk_u2_1]; rfl) (by rw [tk_u1_ne (by decide), tk_u1_same]; exact hr) (by rw [tk_u1_same]; exact hr2)
  · show tkDn tm_86 (7, [some (.inr (.inr (4, 0, 0))), some (.inr (.inr (1, b, 0))), none, none], [], (I, J, R)) _
    refine dn_ret0 rfl rfl rfl rfl ?_
    have := hQ (I 4 0) (J 4 0) c (hk c)
    rw [tk_so_id, tk_so_id] at this
    exact this
set_option maxRecDepth 8000 in
theorem sw_isLively {I : tkI} {J : tkJ} {R : Nat → Nat} {Q : tkQ} {b : Nat} {S : tkS} (hP : NetP (I 1 b) S) (w : WF S) (hk : ¬ I 4 0 0 6 = 0 → KnS S (I 4 0) (J 4 0)) (hQ : ∀ X N, ¬ X 0 6 = 0 → KnS S X N → Q (some (.inl (X 0 7))) (tk_so I 4 0 X, tk_so J 4 0 N, R)) : tkDn tm_81 (0, [some (.inr (.inr (4, 0, 0))), some (.inr (.inr (1, b, 0)))], [], (I, J, R)) Q := by
  refine dn_run 2 (show tkDn tm_81 (2, [some (.inr (.inr (4, 0, 0))), some (.inr (.inr (1, b, 0)))], [.inr (.inr (1, b, 0)), .inr (.inr (4, 0, 0))], (I, J, R)) _ from ?_)
  refine dn_call rfl rfl rfl rfl rfl (sw_work hP w hk (fun X N h6 hK => ?_))
  show tkDn tm_81 (5, [some (.inr (.inr (4, 0, 0))), some (.inr (.inr (1, b, 0)))], [], (tk_so I 4 0 X, tk_so J 4 0 N, R)) _
  refine dn_run 2 (show tkDn tm_81 (9, [some (.inr (.inr (4, 0, 0))), some (.inr (.inr (1, b, 0)))], [.inl (X 0 7)], (tk_so I 4 0 X, tk_so J 4 0 N, R)) _ from ?_)
  refine dn_retb rfl rfl rfl rfl (by obtain ⟨x, k, e, v, -, h7, -⟩ := hK; rw [h7]; by_cases z : x = 1; exact Or.inr (if_pos z); exact Or.inl (if_neg z)) ?_
  exact hQ X N h6 hK
set_option maxRecDepth 8000 in
theorem sw_roundCount {I : tkI} {J : tkJ} {R : Nat → Nat} {Q : tkQ} {b : Nat} {S : tkS} (hP : NetP (I 1 b) S) (w : WF S) (hk : ¬ I 4 0 0 6 = 0 → KnS S (I 4 0) (J 4 0)) (hQ : ∀ X N, ¬ X 0 6 = 0 → KnS S X N → Q (some (.inl (X 0 8))) (tk_so I 4 0 X, tk_so J 4 0 N, R)) : tkDn tm_82 (0, [some (.inr (.inr (4, 0, 0))), some (.inr (.inr (1, b, 0)))], [], (I, J, R)) Q := by
  refine dn_run 2 (show tkDn tm_82 (2, [some (.inr (.inr (4, 0, 0))), some (.inr (.inr (1, b, 0)))], [.inr (.inr (1, b, 0)), .inr (.inr (4, 0, 0))], (I, J, R)) _ from ?_)
  refine dn_call rfl rfl rfl rfl rfl (sw_work hP w hk (fun X N h6 hK => ?_))
  show tkDn tm_82 (5, [some (.inr (.inr (4, 0, 0))), some (.inr (.inr (1, b, 0)))], [], (tk_so I 4 0 X, tk_so J 4 0 N, R)) _
  refine dn_run 2 (show tkDn tm_82 (9, [some (.inr (.inr (4, 0, 0))), some (.inr (.inr (1, b, 0)))], [.inl (X 0 8)], (tk_so I 4 0 X, tk_so J 4 0 N, R)) _ from ?_)
  refine dn_ret0 rfl rfl rfl rfl ?_
  exact hQ X N h6 hK
