/-! the reference: know, lively, rounds, edge, wait -/
set_option maxRecDepth 8000 in
theorem mKn.net {X Y : Nat → Nat → Int32} {S : tkS} (h : mKn X Y) (hP : NetP X S) : NetP Y S := NetP_to hP (fun k hk => h 0 k (by omega)) (fun s h4 h9 => funext fun k => h s k (by omega))
set_option maxRecDepth 8000 in
theorem mKn.u {X Y : Nat → Nat → Int32} {k : Nat} {x : Int32} (h : mKn X Y) (hk : k = 11 ∨ k = 29 ∨ k = 30) : mKn X (tk_u2 Y 0 k x) := fun s j hj => by
  rw [tk_u2_0 (by omega)]
  exact h s j hj
set_option maxRecDepth 8000 in
theorem sm_kn_1 {I : tkI} {J : tkJ} {R : Nat → Nat} {Q : tkQ} {N : Nat → Nat → Int64} (hK : tkDn tm_173 (37, [some (.inr (.inr (6, 0, 0))), some (.inl (nI 256))], [], (I, tk_so J 6 0 (tk_u1 N 21 (fillR (N 21) 256 4611686018427387904)), R)) Q) : ∀ m i, i + m = 256 → tkDn tm_173 (15, [some (.inr (.inr (6, 0, 0))), some (.inl (nI i))], [], (I, tk_so J 6 0 (tk_u1 N 21 (fillR (N 21) i 4611686018427387904)), R)) Q := by
  intro m
  induction m with
  | zero =>
    intro i hi
    have hi : i = 256 := by omega
    subst hi
    show tkDn tm_173 (15, [some (.inr (.inr (6, 0, 0))), some (.inl (nI 256))], [], (I, tk_so J 6 0 (tk_u1 N 21 (fillR (N 21) 256 4611686018427387904)), R)) _
    refine dn_run 2 (show tkDn tm_173 (19, [some (.inr (.inr (6, 0, 0))), some (.inl (nI 256))], [.inl 256, .inl (nI 256)], (I, tk_so J 6 0 (tk_u1 N 21 (fillR (N 21) 256 4611686018427387904)), R)) _ from ?_)
    refine dn_if rfl rfl rfl (fun (c : 256 ≤ (nI 256)) => ?_) (fun (c : ¬ 256 ≤ (nI 256)) => ?_)
    · exact hK
    · exact absurd (by decide) c
  | succ m ih =>
    intro i hi
    show tkDn tm_173 (15, [some (.inr (.inr (6, 0, 0))), some (.inl (nI i))], [], (I, tk_so J 6 0 (tk_u1 N 21 (fillR (N 21) i 4611686018427387904)), R)) _
    refine dn_run 2 (show tkDn tm_173 (19, [some (.inr (.inr (6, 0, 0))), some (.inl (nI i))], [.inl 256, .inl (nI i)], (I, tk_so J 6 0 (tk_u1 N 21 (fillR (N 21) i 4611686018427387904)), R)) _ from ?_)
    refine dn_if rfl rfl rfl (fun (c : 256 ≤ (nI i)) => ?_) (fun (c : ¬ 256 ≤ (nI i)) => ?_)
    · exact absurd c (nI_ge (b := 256) (by omega) (by omega))
    · show tkDn tm_173 (22, [some (.inr (.inr (6, 0, 0))), some (.inl (nI i))], [], (I, tk_so J 6 0 (tk_u1 N 21 (fillR (N 21) i 4611686018427387904)), R)) _
      refine dn_run 7 (show (vp_in (nI i) 256) ∧ tkDn tm_173 (15, [some (.inr (.inr (6, 0, 0))), some (.inl ((nI i) + 1))], [], (I, tk_so (tk_so J 6 0 (tk_u1 N 21 (fillR (N 21) i 4611686018427387904))) 6 0 (tk_u2 (tk_u1 N 21 (fillR (N 21) i 4611686018427387904)) 21 ((nI i).toNatClampNeg) 4611686018427387904), R)) _ from ⟨vp_in_nI (by omega) (by omega), ?_⟩)
      rw [tk_so_so]
      rw [tk_u2_u1, nI_clamp (show i < 2 ^ 31 by omega), fillR_s, nI_1]
      exact ih (i + 1) (by omega)
set_option maxRecDepth 8000 in
theorem sm_kn_2 {I : tkI} {J : tkJ} {R : Nat → Nat} {Q : tkQ} {N : Nat → Nat → Int64} (hK : tkDn tm_173 (69, [some (.inr (.inr (6, 0, 0))), some (.inl (nI 256))], [], (I, tk_so J 6 0 (tk_u1 N 24 (cpR (N 21) (N 24) 256)), R)) Q) : ∀ m i, i + m = 256 → tkDn tm_173 (44, [some (.inr (.inr (6, 0, 0))), some (.inl (nI i))], [], (I, tk_so J 6 0 (tk_u1 N 24 (cpR (N 21) (N 24) i)), R)) Q := by
  intro m
  induction m with
  | zero =>
    intro i hi
    have hi : i = 256 := by omega
    subst hi
    show tkDn tm_173 (44, [some (.inr (.inr (6, 0, 0))), some (.inl (nI 256))], [], (I, tk_so J 6 0 (tk_u1 N 24 (cpR (N 21) (N 24) 256)), R)) _
    refine dn_run 2 (show tkDn tm_173 (48, [some (.inr (.inr (6, 0, 0))), some (.inl (nI 256))], [.inl 256, .inl (nI 256)], (I, tk_so J 6 0 (tk_u1 N 24 (cpR (N 21) (N 24) 256)), R)) _ from ?_)
    refine dn_if rfl rfl rfl (fun (c : 256 ≤ (nI 256)) => ?_) (fun (c : ¬ 256 ≤ (nI 256)) => ?_)
    · exact hK
    · exact absurd (by decide) c
  | succ m ih =>
    intro i hi
    show tkDn tm_173 (44, [some (.inr (.inr (6, 0, 0))), some (.inl (nI i))], [], (I, tk_so J 6 0 (tk_u1 N 24 (cpR (N 21) (N 24) i)), R)) _
    refine dn_run 2 (show tkDn tm_173 (48, [some (.inr (.inr (6, 0, 0))), some (.inl (nI i))], [.inl 256, .inl (nI i)], (I, tk_so J 6 0 (tk_u1 N 24 (cpR (N 21) (N 24) i)), R)) _ from ?_)
    refine dn_if rfl rfl rfl (fun (c : 256 ≤ (nI i)) => ?_) (fun (c : ¬ 256 ≤ (nI i)) => ?_)
    · exact absurd c (nI_ge (b := 256) (by omega) (by omega))
    · show tkDn tm_173 (51, [some (.inr (.inr (6, 0, 0))), some (.inl (nI i))], [], (I, tk_so J 6 0 (tk_u1 N 24 (cpR (N 21) (N 24) i)), R)) _
      refine dn_run 10 (show (vp_in (nI i) 256) ∧ (vp_in (nI i) 256) ∧ tkDn tm_173 (44, [some (.inr (.inr (6, 0, 0))), some (.inl ((nI i) + 1))], [], (I, tk_so (tk_so J 6 0 (tk_u1 N 24 (cpR (N 21) (N 24) i))) 6 0 (tk_u2 (tk_u1 N 24 (cpR (N 21) (N 24) i)) 24 ((nI i).toNatClampNeg) (N 21 ((nI i).toNatClampNeg))), R)) _ from ⟨vp_in_nI (by omega) (by omega), vp_in_nI (by omega) (by omega), ?_⟩)
      rw [tk_so_so]
      rw [tk_u2_u1, nI_clamp (show i < 2 ^ 31 by omega), cpR_s, nI_1]
      exact ih (i + 1) (by omega)
set_option maxRecDepth 8000 in
theorem sm_kn_3 {I : tkI} {J : tkJ} {R : Nat → Nat} {Q : tkQ} {N : Nat → Nat → Int64} (hK : tkDn tm_173 (92, [some (.inr (.inr (6, 0, 0))), some (.inl (nI 96))], [], (I, tk_so J 6 0 (tk_u1 N 25 (fillR (N 25) 96 4611686018427387904)), R)) Q) : ∀ m i, i + m = 96 → tkDn tm_173 (71, [some (.inr (.inr (6, 0, 0))), some (.inl (nI i))], [], (I, tk_so J 6 0 (tk_u1 N 25 (fillR (N 25) i 4611686018427387904)), R)) Q := by
  intro m
  induction m with
  | zero =>
    intro i hi
    have hi : i = 96 := by omega
    subst hi
    show tkDn tm_173 (71, [some (.inr (.inr (6, 0, 0))), some (.inl (nI 96))], [], (I, tk_so J 6 0 (tk_u1 N 25 (fillR (N 25) 96 4611686018427387904)), R)) _
    refine dn_run 2 (show tkDn tm_173 (74, [some (.inr (.inr (6, 0, 0))), some (.inl (nI 96))], [.inl 96, .inl (nI 96)], (I, tk_so J 6 0 (tk_u1 N 25 (fillR (N 25) 96 4611686018427387904)), R)) _ from ?_)
    refine dn_if rfl rfl rfl (fun (c : 96 ≤ (nI 96)) => ?_) (fun (c : ¬ 96 ≤ (nI 96)) => ?_)
    · exact hK
    · exact absurd (by decide) c
  | succ m ih =>
    intro i hi
    show tkDn tm_173 (71, [some (.inr (.inr (6, 0, 0))), some (.inl (nI i))], [], (I, tk_so J 6 0 (tk_u1 N 25 (fillR (N 25) i 4611686018427387904)), R)) _
    refine dn_run 2 (show tkDn tm_173 (74, [some (.inr (.inr (6, 0, 0))), some (.inl (nI i))], [.inl 96, .inl (nI i)], (I, tk_so J 6 0 (tk_u1 N 25 (fillR (N 25) i 4611686018427387904)), R)) _ from ?_)
    refine dn_if rfl rfl rfl (fun (c : 96 ≤ (nI i)) => ?_) (fun (c : ¬ 96 ≤ (nI i)) => ?_)
    · exact absurd c (nI_ge (b := 96) (by omega) (by omega))
    · show tkDn tm_173 (77, [some (.inr (.inr (6, 0, 0))), some (.inl (nI i))], [], (I, tk_so J 6 0 (tk_u1 N 25 (fillR (N 25) i 4611686018427387904)), R)) _
      refine dn_run 7 (show (vp_in (nI i) 96) ∧ tkDn tm_173 (71, [some (.inr (.inr (6, 0, 0))), some (.inl ((nI i) + 1))], [], (I, tk_so (tk_so J 6 0 (tk_u1 N 25 (fillR (N 25) i 4611686018427387904))) 6 0 (tk_u2 (tk_u1 N 25 (fillR (N 25) i 4611686018427387904)) 25 ((nI i).toNatClampNeg) 4611686018427387904), R)) _ from ⟨vp_in_nI (by omega) (by omega), ?_⟩)
      rw [tk_so_so]
      rw [tk_u2_u1, nI_clamp (show i < 2 ^ 31 by omega), fillR_s, nI_1]
      exact ih (i + 1) (by omega)
set_option maxRecDepth 8000 in
theorem sm_kn_4 {I : tkI} {J : tkJ} {R : Nat → Nat} {Q : tkQ} {S : tkS} (hP : NetP (I 6 0) S) (w : WF S) {N : Nat → Nat → Int64} (hK : ∀ r, WRow r (bdM S (sG S)) → tkDn tm_173 (136, [some (.inr (.inr (6, 0, 0))), some (.inl (nI (sG S)))], [], (I, tk_so J 6 0 (tk_u1 N 25 r), R)) Q) : ∀ m g r, g + m = sG S → WRow r (bdM S g) → tkDn tm_173 (94, [some (.inr (.inr (6, 0, 0))), some (.inl (nI g))], [], (I, tk_so J 6 0 (tk_u1 N 25 r), R)) Q := by
  have hM16 := w.1
  have hL60 := w.2.1
  have hG6 := w.2.2.1
  have hM := hP.m
  have hG := hP.g
  intro m
  induction m with
  | zero =>
    intro g r hg hr
    have hg : g = sG S := by omega
    subst hg
    show tkDn tm_173 (94, [some (.inr (.inr (6, 0, 0))), some (.inl (nI (sG S)))], [], (I, tk_so J 6 0 (tk_u1 N 25 r), R)) _
    refine dn_run 3 (show tkDn tm_173 (99, [some (.inr (.inr (6, 0, 0))), some (.inl (nI (sG S)))], [.inl (I 6 0 0 2), .inl (nI (sG S))], (I, tk_so J 6 0 (tk_u1 N 25 r), R)) _ from ?_)
    rw [hG]
    show tkDn tm_173 (99, [some (.inr (.inr (6, 0, 0))), some (.inl (nI (sG S)))], [.inl (nI (sG S)), .inl (nI (sG S))], (I, tk_so J 6 0 (tk_u1 N 25 r), R)) _
    refine dn_if rfl rfl rfl (fun (c : (nI (sG S)) ≤ (nI (sG S))) => ?_) (fun (c : ¬ (nI (sG S)) ≤ (nI (sG S))) => ?_)
    · exact hK r hr
    · exact absurd (nI_le (by omega) (by omega)) c
  | succ m ih =>
    intro g r hg hr
    have hgl := w.gl (g := g) (by omega)
    have he_ := w.eM hgl
    have e9 := hP.gl w (g := g) (by omega)
    have e7 := hP.hi w hgl
    show tkDn tm_173 (94, [some (.inr (.inr (6, 0, 0))), some (.inl (nI g))], [], (I, tk_so J 6 0 (tk_u1 N 25 r), R)) _
    refine dn_run 3 (show tkDn tm_173 (99, [some (.inr (.inr (6, 0, 0))), some (.inl (nI g))], [.inl (I 6 0 0 2), .inl (nI g)], (I, tk_so J 6 0 (tk_u1 N 25 r), R)) _ from ?_)
    rw [hG]
    show tkDn tm_173 (99, [some (.inr (.inr (6, 0, 0))), some (.inl (nI g))], [.inl (nI (sG S)), .inl (nI g)], (I, tk_so J 6 0 (tk_u1 N 25 r), R)) _
    refine dn_if rfl rfl rfl (fun (c : (nI (sG S)) ≤ (nI g)) => ?_) (fun (c : ¬ (nI (sG S)) ≤ (nI g)) => ?_)
    · exact absurd c (nI_ge (by omega) (by omega))
    · show tkDn tm_173 (102, [some (.inr (.inr (6, 0, 0))), some (.inl (nI g))], [], (I, tk_so J 6 0 (tk_u1 N 25 r), R)) _
      refine dn_run 5 (show tkDn tm_173 (110, [some (.inr (.inr (6, 0, 0))), some (.inl (nI g))], [.inl (nI g), .inr (.inr (6, 0, 0)), .inl 6, .inr (.inr (6, 0, 25))], (I, tk_so J 6 0 (tk_u1 N 25 r), R)) _ from ?_)
      refine dn_call rfl rfl rfl rfl rfl (sm_end hP w (g := g) (by omega) ?_)
      show tkDn tm_173 (113, [some (.inr (.inr (6, 0, 0))), some (.inl (nI g))], [.inl (nI (se S (sgl S g))), .inl 6, .inr (.inr (6, 0, 25))], (I, tk_so J 6 0 (tk_u1 N 25 r), R)) _
      refine dn_run 15 (show (vp_in (nI g) 6) ∧ (vp_in (I 6 0 9 ((nI g).toNatClampNeg)) 60) ∧ (vp_in ((6 * (nI (se S (sgl S g)))) + (nI g)) 96) ∧ tkDn tm_173 (94, [some (.inr (.inr (6, 0, 0))), some (.inl ((nI g) + 1))], [], (I, tk_so (tk_so J 6 0 (tk_u1 N 25 r)) 6 0 (tk_u2 (tk_u1 N 25 r) 25 (((6 * (nI (se S (sgl S g)))) + (nI g)).toNatClampNeg) (((-(I 6 0 7 ((I 6 0 9 ((nI g).toNatClampNeg)).toNatClampNeg))) : Int32).toInt64)), R)) _ from ⟨vp_in_nI (by omega) (by omega), by rw [e9]; exact vp_in_nI (by omega) (by omega), by rw [ix6']; exact vp_in_nI (by omega) (by omega), ?_⟩)
      rw [tk_so_so]
      rw [tk_u2_u1, e9, e7, ix6', nI_clamp (show 6 * se S (sgl S g) + g < 2 ^ 31 by omega), nI_1]
      exact ih (g + 1) _ (by omega) (hr.put (by omega))
set_option maxRecDepth 8000 in
theorem sm_kn_end {I : tkI} {J : tkJ} {R : Nat → Nat} {Q : tkQ} {S : tkS} {X0 : Nat → Nat → Int32} {x : Int32} {k : Nat} {e v : tkD} {X : Nat → Nat → Int32} {N : Nat → Nat → Int64} (h : mWk S x k e v) (h11 : X 0 11 = 1) (h30 : X 0 30 = nI k) (hX : mKn X0 X) (he : RowP 16 (N 24) e) (hv : WRow (N 25) v) (hQ : ∀ X N, X 0 11 = 1 → KnM S X N → mKn X0 X → Q none (tk_so I 6 0 X, tk_so J 6 0 N, R)) : tkDn tm_173 (175, [some (.inr (.inr (6, 0, 0))), some (.inl x)], [], (tk_so I 6 0 X, tk_so J 6 0 N, R)) Q := by
  refine dn_run 3 (show tkDn tm_173 (178, [some (.inr (.inr (6, 0, 0))), some (.inl x)], [.inl 1, .inl x, .inr (.inr (6, 0, 0))], (tk_so I 6 0 X, tk_so J 6 0 N, R)) _ from ?_)
  refine dn_if rfl rfl rfl (fun (c : ¬ x = 1) => ?_) (fun (c : x = 1) => ?_)
  · show tkDn tm_173 (185, [some (.inr (.inr (6, 0, 0))), some (.inl x)], [.inr (.inr (6, 0, 0))], (tk_so I 6 0 X, tk_so J 6 0 N, R)) _
    refine dn_run 2 (show (0 = 0 ∨ 0 = 1) ∧ tkDn tm_173 (189, [some (.inr (.inr (6, 0, 0))), some (.inl x)], [], (tk_so (tk_so I 6 0 X) 6 0 (tk_u2 X 0 29 0), tk_so J 6 0 N, R)) _ from ⟨Or.inl rfl, ?_⟩)
    rw [tk_so_so]
    refine dn_ret0 rfl rfl rfl rfl ?_
    exact hQ _ _ (by rw [tk_u2_0 (by decide)]; exact h11) ⟨x, k, e, v, h, by rw [tk_u2_1, if_neg c], by rw [tk_u2_0 (by decide)]; exact h30, he, hv⟩ (hX.u (Or.inr (Or.inl rfl)))
  · show tkDn tm_173 (181, [some (.inr (.inr (6, 0, 0))), some (.inl x)], [.inr (.inr (6, 0, 0))], (tk_so I 6 0 X, tk_so J 6 0 N, R)) _
    refine dn_run 3 (show (1 = 0 ∨ 1 = 1) ∧ tkDn tm_173 (189, [some (.inr (.inr (6, 0, 0))), some (.inl x)], [], (tk_so (tk_so I 6 0 X) 6 0 (tk_u2 X 0 29 1), tk_so J 6 0 N, R)) _ from ⟨Or.inr rfl, ?_⟩)
    rw [tk_so_so]
    refine dn_ret0 rfl rfl rfl rfl ?_
    exact hQ _ _ (by rw [tk_u2_0 (by decide)]; exact h11) ⟨x, k, e, v, h, by rw [tk_u2_1, if_pos c], by rw [tk_u2_0 (by decide)]; exact h30, he, hv⟩ (hX.u (Or.inr (Or.inl rfl)))
set_option maxRecDepth 8000 in
theorem sm_kn_loop {I : tkI} {J : tkJ} {R : Nat → Nat} {Q : tkQ} {S : tkS} (w : WF S) {X0 : Nat → Nat → Int32} (hP : NetP X0 S) (hQ : ∀ X N, X 0 11 = 1 → KnM S X N → mKn X0 X → Q none (tk_so I 6 0 X, tk_so J 6 0 N, R)) : ∀ m k x e v X N, k + m = 400 → mRun S k x e v → X 0 11 = 1 → X 0 30 = nI k → mKn X0 X → RowP 16 (N 24) e → WRow (N 25) v → tkDn tm_173 (143, [some (.inr (.inr (6, 0, 0))), some (.inl x)], [], (tk_so I 6 0 X, tk_so J 6 0 N, R)) Q := by
  intro m
  induction m with
  | zero =>
    intro k x e v X N hk hr h11 h30 hX he hv
    have hPX : NetP (tk_so I 6 0 X 6 0) S := by rw [tk_so_same]; exact hX.net hP
    show tkDn tm_173 (143, [some (.inr (.inr (6, 0, 0))), some (.inl x)], [], (tk_so I 6 0 X, tk_so J 6 0 N, R)) _
    refine dn_run 1 (show tkDn tm_173 (144, [some (.inr (.inr (6, 0, 0))), some (.inl x)], [.inl x], (tk_so I 6 0 X, tk_so J 6 0 N, R)) _ from ?_)
    refine dn_if rfl rfl rfl (fun (c1 : ¬ x = 0) => ?_) (fun (c1 : x = 0) => ?_)
    · show tkDn tm_173 (175, [some (.inr (.inr (6, 0, 0))), some (.inl x)], [], (tk_so I 6 0 X, tk_so J 6 0 N, R)) _
      exact sm_kn_end ⟨hr, by omega, Or.inl c1⟩ h11 h30 hX he hv hQ
    · show tkDn tm_173 (147, [some (.inr (.inr (6, 0, 0))), some (.inl x)], [], (tk_so I 6 0 X, tk_so J 6 0 N, R)) _
      refine dn_run 3 (show tkDn tm_173 (154, [some (.inr (.inr (6, 0, 0))), some (.inl x)], [.inl 400, .inl (X 0 30)], (tk_so I 6 0 X, tk_so J 6 0 N, R)) _ from ?_)
      rw [h30]
      show tkDn tm_173 (154, [some (.inr (.inr (6, 0, 0))), some (.inl x)], [.inl 400, .inl (nI k)], (tk_so I 6 0 X, tk_so J 6 0 N, R)) _
      refine dn_if rfl rfl rfl (fun (c2 : 400 ≤ (nI k)) => ?_) (fun (c2 : ¬ 400 ≤ (nI k)) => ?_)
      · show tkDn tm_173 (175, [some (.inr (.inr (6, 0, 0))), some (.inl x)], [], (tk_so I 6 0 X, tk_so J 6 0 N, R)) _
        exact sm_kn_end ⟨hr, by omega, Or.inr (by omega)⟩ h11 h30 hX he hv hQ
      · exact absurd (nI_le (a := 400) (by omega) (by omega)) c2
  | succ m ih =>
    intro k x e v X N hk hr h11 h30 hX he hv
    have hPX : NetP (tk_so I 6 0 X 6 0) S := by rw [tk_so_same]; exact hX.net hP
    show tkDn tm_173 (143, [some (.inr (.inr (6, 0, 0))), some (.inl x)], [], (tk_so I 6 0 X, tk_so J 6 0 N, R)) _
    refine dn_run 1 (show tkDn tm_173 (144, [some (.inr (.inr (6, 0, 0))), some (.inl x)], [.inl x], (tk_so I 6 0 X, tk_so J 6 0 N, R)) _ from ?_)
    refine dn_if rfl rfl rfl (fun (c1 : ¬ x = 0) => ?_) (fun (c1 : x = 0) => ?_)
    · show tkDn tm_173 (175, [some (.inr (.inr (6, 0, 0))), some (.inl x)], [], (tk_so I 6 0 X, tk_so J 6 0 N, R)) _
      exact sm_kn_end ⟨hr, by omega, Or.inl c1⟩ h11 h30 hX he hv hQ
    · show tkDn tm_173 (147, [some (.inr (.inr (6, 0, 0))), some (.inl x)], [], (tk_so I 6 0 X, tk_so J 6 0 N, R)) _
      refine dn_run 3 (show tkDn tm_173 (154, [some (.inr (.inr (6, 0, 0))), some (.inl x)], [.inl 400, .inl (X 0 30)], (tk_so I 6 0 X, tk_so J 6 0 N, R)) _ from ?_)
      rw [h30]
      show tkDn tm_173 (154, [some (.inr (.inr (6, 0, 0))), some (.inl x)], [.inl 400, .inl (nI k)], (tk_so I 6 0 X, tk_so J 6 0 N, R)) _
      refine dn_if rfl rfl rfl (fun (c2 : 400 ≤ (nI k)) => ?_) (fun (c2 : ¬ 400 ≤ (nI k)) => ?_)
      · exact absurd c2 (nI_ge (b := 400) (by omega) (by omega))
      · show tkDn tm_173 (157, [some (.inr (.inr (6, 0, 0))), some (.inl x)], [], (tk_so I 6 0 X, tk_so J 6 0 N, R)) _
        subst c1
        show tkDn tm_173 (157, [some (.inr (.inr (6, 0, 0))), some (.inl 0)], [], (tk_so I 6 0 X, tk_so J 6 0 N, R)) _
        refine dn_run 1 (show tkDn tm_173 (158, [some (.inr (.inr (6, 0, 0))), some (.inl 0)], [.inr (.inr (6, 0, 0))], (tk_so I 6 0 X, tk_so J 6 0 N, R)) _ from ?_)
        refine dn_call rfl rfl rfl rfl rfl (sm_goesRound hPX w he hv (fun N2 x2 e2 v2 hd he2 hv2 => ?_))
        show tkDn tm_173 (161, [some (.inr (.inr (6, 0, 0))), some (.inl 0)], [.inl x2], (tk_so I 6 0 X, tk_so J 6 0 N2, R)) _
        refine dn_run 8 (show tkDn tm_173 (143, [some (.inr (.inr (6, 0, 0))), some (.inl x2)], [], (tk_so (tk_so I 6 0 X) 6 0 (tk_u2 X 0 30 ((X 0 30) + 1)), tk_so J 6 0 N2, R)) _ from ?_)
        rw [tk_so_so]
        rw [h30, nI_1]
        exact ih (k + 1) x2 e2 v2 _ N2 (by omega) ⟨e, v, hr, hd⟩ (by rw [tk_u2_0 (by decide)]; exact h11) (by rw [tk_u2_1]) (hX.u (Or.inr (Or.inr rfl))) he2 hv2
set_option maxRecDepth 8000 in
theorem sm_know {I : tkI} {J : tkJ} {R : Nat → Nat} {Q : tkQ} {S : tkS} (hP : NetP (I 6 0) S) (w : WF S) (hb : I 6 0 0 11 = 0 ∨ I 6 0 0 11 = 1) (hk : I 6 0 0 11 = 1 → KnM S (I 6 0) (J 6 0)) (hQ : ∀ X N, X 0 11 = 1 → KnM S X N → mKn (I 6 0) X → Q none (tk_so I 6 0 X, tk_so J 6 0 N, R)) : tkDn tm_173 (0, [some (.inr (.inr (6, 0, 0))), none], [], (I, J, R)) Q := by
  refine dn_run 2 (show tkDn tm_173 (4, [some (.inr (.inr (6, 0, 0))), none], [.inl (I 6 0 0 11)], (I, J, R)) _ from ?_)
  refine dn_if rfl rfl rfl (fun (c : (I 6 0 0 11) = 0) => ?_) (fun (c : ¬ (I 6 0 0 11) = 0) => ?_)
  · show tkDn tm_173 (8, [some (.inr (.inr (6, 0, 0))), none], [], (I, J, R)) _
    refine dn_run 5 (show (1 = 0 ∨ 1 = 1) ∧ tkDn tm_173 (15, [some (.inr (.inr (6, 0, 0))), some (.inl 0)], [], (tk_so I 6 0 (tk_u2 (I 6 0) 0 11 1), J, R)) _ from ⟨Or.inr rfl, ?_⟩)
    obtain ⟨I1, hI1⟩ : ∃ I1, I1 = tk_so I 6 0 (tk_u2 (I 6 0) 0 11 1) := ⟨_, rfl⟩
    rw [← hI1]
    have hX1 : mKn (I 6 0) (I1 6 0) := by rw [hI1, tk_so_same]; exact mKn.u (fun _ _ _ => rfl) (Or.inl rfl)
    have hP1 : NetP (I1 6 0) S := hX1.net hP
    have h11 : I1 6 0 0 11 = 1 := by rw [hI1, tk_so_same, tk_u2_1]
    have key := sm_kn_1 (I := I1) (J := J) (R := R) (Q := Q) (N := J 6 0) ?_ 256 0 rfl
    · rw [fillR_0, tk_u1_id, tk_so_id] at key; exact key
    show tkDn tm_173 (37, [some (.inr (.inr (6, 0, 0))), some (.inl (nI 256))], [], (I1, tk_so J 6 0 (tk_u1 (J 6 0) 21 (fillR (J 6 0 21) 256 4611686018427387904)), R)) _
    obtain ⟨N1, hN1⟩ : ∃ N1, N1 = tk_u1 (J 6 0) 21 (fillR (J 6 0 21) 256 4611686018427387904) := ⟨_, rfl⟩
    rw [← hN1]
    show tkDn tm_173 (37, [some (.inr (.inr (6, 0, 0))), some (.inl (nI 256))], [], (I1, tk_so J 6 0 N1, R)) _
    refine dn_run 2 (show tkDn tm_173 (39, [some (.inr (.inr (6, 0, 0))), some (.inl (nI 256))], [.inl (-1), .inr (.inr (6, 0, 0))], (I1, tk_so J 6 0 N1, R)) _ from ?_)
    refine dn_call rfl rfl rfl rfl rfl (sm_layLinksX hP1 w (fun j hj => by rw [tk_so_same, hN1, tk_u1_same]; exact if_pos hj) (fun r hr => ?_))
    rw [tk_so_so, tk_so_same]
    show tkDn tm_173 (42, [some (.inr (.inr (6, 0, 0))), some (.inl (nI 256))], [], (I1, tk_so J 6 0 (tk_u1 N1 21 r), R)) _
    obtain ⟨N2, hN2⟩ : ∃ N2, N2 = tk_u1 N1 21 r := ⟨_, rfl⟩
    rw [← hN2]
    show tkDn tm_173 (42, [some (.inr (.inr (6, 0, 0))), some (.inl (nI 256))], [], (I1, tk_so J 6 0 N2, R)) _
    refine dn_run 2 (show tkDn tm_173 (44, [some (.inr (.inr (6, 0, 0))), some (.inl 0)], [], (I1, tk_so J 6 0 N2, R)) _ from ?_)
    have key := sm_kn_2 (I := I1) (J := J) (R := R) (Q := Q) (N := N2) ?_ 256 0 rfl
    · rw [cpR_0, tk_u1_id] at key; exact key
    show tkDn tm_173 (69, [some (.inr (.inr (6, 0, 0))), some (.inl (nI 256))], [], (I1, tk_so J 6 0 (tk_u1 N2 24 (cpR (N2 21) (N2 24) 256)), R)) _
    obtain ⟨N3, hN3⟩ : ∃ N3, N3 = tk_u1 N2 24 (cpR (N2 21) (N2 24) 256) := ⟨_, rfl⟩
    rw [← hN3]
    have h24 : RowP 16 (N3 24) (exM (sM S) (mlM S (-1) (sL S))) := by rw [hN3, tk_u1_same, hN2, tk_u1_same]; exact hr.cp (fun j hj => if_pos hj)
    show tkDn tm_173 (69, [some (.inr (.inr (6, 0, 0))), some (.inl (nI 256))], [], (I1, tk_so J 6 0 N3, R)) _
    refine dn_run 2 (show tkDn tm_173 (71, [some (.inr (.inr (6, 0, 0))), some (.inl 0)], [], (I1, tk_so J 6 0 N3, R)) _ from ?_)
    have key := sm_kn_3 (I := I1) (J := J) (R := R) (Q := Q) (N := N3) ?_ 96 0 rfl
    · rw [fillR_0, tk_u1_id] at key; exact key
    show tkDn tm_173 (92, [some (.inr (.inr (6, 0, 0))), some (.inl (nI 96))], [], (I1, tk_so J 6 0 (tk_u1 N3 25 (fillR (N3 25) 96 4611686018427387904)), R)) _
    refine dn_run 2 (show tkDn tm_173 (94, [some (.inr (.inr (6, 0, 0))), some (.inl 0)], [], (I1, tk_so J 6 0 (tk_u1 N3 25 (fillR (N3 25) 96 4611686018427387904)), R)) _ from ?_)
    refine sm_kn_4 hP1 w (fun r2 hr2 => ?_) (sG S) 0 _ (Nat.zero_add _) (fun a g ha hg => if_pos (by omega))
    show tkDn tm_173 (136, [some (.inr (.inr (6, 0, 0))), some (.inl (nI (sG S)))], [], (I1, tk_so J 6 0 (tk_u1 N3 25 r2), R)) _
    refine dn_run 5 (show tkDn tm_173 (143, [some (.inr (.inr (6, 0, 0))), some (.inl 0)], [], (tk_so I1 6 0 (tk_u2 (I1 6 0) 0 30 0), tk_so J 6 0 (tk_u1 N3 25 r2), R)) _ from ?_)
    exact sm_kn_loop w hP (by rw [hI1, jr_same] ; exact hQ) 400 0 0 _ _ _ _ rfl ⟨rfl, rfl, rfl⟩ (by rw [tk_u2_0 (by decide)]; exact h11) (by rw [tk_u2_1]; rfl) (hX1.u (Or.inr (Or.inr rfl))) (by rw [tk_u1_ne (by decide)]; exact h24) (by rw [tk_u1_same]; exact hr2)
  · show tkDn tm_173 (7, [some (.inr (.inr (6, 0, 0))), none], [], (I, J, R)) _
    refine dn_ret0 rfl rfl rfl rfl ?_
    have := hQ (I 6 0) (J 6 0) (hb.resolve_left c) (hk (hb.resolve_left c)) (fun _ _ _ => rfl)
    rw [tk_so_id, tk_so_id] at this
    exact this
