/-! the reference: the calls of its waits and runs -/
set_option maxRecDepth 8000 in
theorem KnM.b {S : tkS} {X : Nat → Nat → Int32} {N : Nat → Nat → Int64} (h : KnM S X N) : X 0 29 = 0 ∨ X 0 29 = 1 := by
  obtain ⟨x, k, e, v, -, h7, -⟩ := h
  rw [h7]; exact ite_c
set_option maxRecDepth 8000 in
theorem sm_lively {I : tkI} {J : tkJ} {R : Nat → Nat} {Q : tkQ} {S : tkS} (hP : NetP (I 6 0) S) (w : WF S) (hb : I 6 0 0 11 = 0 ∨ I 6 0 0 11 = 1) (hk : I 6 0 0 11 = 1 → KnM S (I 6 0) (J 6 0)) (hQ : ∀ X N, X 0 11 = 1 → KnM S X N → mKn (I 6 0) X → Q (some (.inl (X 0 29))) (tk_so I 6 0 X, tk_so J 6 0 N, R)) : tkDn tm_174 (0, [some (.inr (.inr (6, 0, 0)))], [], (I, J, R)) Q := by
  refine dn_run 1 (show tkDn tm_174 (1, [some (.inr (.inr (6, 0, 0)))], [.inr (.inr (6, 0, 0))], (I, J, R)) _ from ?_)
  refine dn_call rfl rfl rfl rfl rfl (sm_know hP w hb hk (fun X N h11 hK hX => ?_))
  show tkDn tm_174 (4, [some (.inr (.inr (6, 0, 0)))], [], (tk_so I 6 0 X, tk_so J 6 0 N, R)) _
  refine dn_run 2 (show tkDn tm_174 (8, [some (.inr (.inr (6, 0, 0)))], [.inl (X 0 29)], (tk_so I 6 0 X, tk_so J 6 0 N, R)) _ from ?_)
  refine dn_if rfl rfl rfl (fun (c : (X 0 29) = 0) => ?_) (fun (c : ¬ (X 0 29) = 0) => ?_)
  · show tkDn tm_174 (15, [some (.inr (.inr (6, 0, 0)))], [], (tk_so I 6 0 X, tk_so J 6 0 N, R)) _
    refine dn_run 1 (show tkDn tm_174 (16, [some (.inr (.inr (6, 0, 0)))], [.inl 0], (tk_so I 6 0 X, tk_so J 6 0 N, R)) _ from ?_)
    refine dn_ret0 rfl rfl rfl rfl ?_
    rw [← c]; exact hQ X N h11 hK hX
  · show tkDn tm_174 (11, [some (.inr (.inr (6, 0, 0)))], [], (tk_so I 6 0 X, tk_so J 6 0 N, R)) _
    refine dn_run 2 (show tkDn tm_174 (16, [some (.inr (.inr (6, 0, 0)))], [.inl 1], (tk_so I 6 0 X, tk_so J 6 0 N, R)) _ from ?_)
    refine dn_ret0 rfl rfl rfl rfl ?_
    rw [← hK.b.resolve_left c]; exact hQ X N h11 hK hX
set_option maxRecDepth 8000 in
theorem sm_rounds {I : tkI} {J : tkJ} {R : Nat → Nat} {Q : tkQ} {S : tkS} (hP : NetP (I 6 0) S) (w : WF S) (hb : I 6 0 0 11 = 0 ∨ I 6 0 0 11 = 1) (hk : I 6 0 0 11 = 1 → KnM S (I 6 0) (J 6 0)) (hQ : ∀ X N, X 0 11 = 1 → KnM S X N → mKn (I 6 0) X → Q (some (.inl (X 0 30))) (tk_so I 6 0 X, tk_so J 6 0 N, R)) : tkDn tm_175 (0, [some (.inr (.inr (6, 0, 0)))], [], (I, J, R)) Q := by
  refine dn_run 1 (show tkDn tm_175 (1, [some (.inr (.inr (6, 0, 0)))], [.inr (.inr (6, 0, 0))], (I, J, R)) _ from ?_)
  refine dn_call rfl rfl rfl rfl rfl (sm_know hP w hb hk (fun X N h11 hK hX => ?_))
  show tkDn tm_175 (4, [some (.inr (.inr (6, 0, 0)))], [], (tk_so I 6 0 X, tk_so J 6 0 N, R)) _
  refine dn_run 2 (show tkDn tm_175 (8, [some (.inr (.inr (6, 0, 0)))], [.inl (X 0 30)], (tk_so I 6 0 X, tk_so J 6 0 N, R)) _ from ?_)
  refine dn_ret0 rfl rfl rfl rfl ?_
  exact hQ X N h11 hK hX
set_option maxRecDepth 8000 in
theorem sm_edge {I : tkI} {J : tkJ} {R : Nat → Nat} {Q : tkQ} {S : tkS} (hP : NetP (I 6 0) S) (w : WF S) {u z : Int32} (hb : I 6 0 0 11 = 0 ∨ I 6 0 0 11 = 1) (hk : I 6 0 0 11 = 1 → KnM S (I 6 0) (J 6 0)) (hQ : ∀ X N, X 0 11 = 1 → KnM S X N → mKn (I 6 0) X → Q (some (.inr (.inl (if hasM S u ∧ hasM S z ∧ X 0 29 = 1 then N 24 (16 * u.toNatClampNeg + z.toNatClampNeg) else 0)))) (tk_so I 6 0 X, tk_so J 6 0 N, R)) : tkDn tm_176 (0, [some (.inr (.inr (6, 0, 0))), some (.inl u), some (.inl z)], [], (I, J, R)) Q := by
  have hM16 := w.1
  have hL60 := w.2.1
  have hG6 := w.2.2.1
  have hM := hP.m
  have hG := hP.g
  have hL := hP.l
  refine dn_run 1 (show tkDn tm_176 (1, [some (.inr (.inr (6, 0, 0))), some (.inl u), some (.inl z)], [.inr (.inr (6, 0, 0))], (I, J, R)) _ from ?_)
  refine dn_call rfl rfl rfl rfl rfl (sm_know hP w hb hk (fun X N h11 hK hX => ?_))
  show tkDn tm_176 (4, [some (.inr (.inr (6, 0, 0))), some (.inl u), some (.inl z)], [], (tk_so I 6 0 X, tk_so J 6 0 N, R)) _
  have hR := hQ X N h11 hK hX
  clear hQ
  have hPX : NetP (tk_so I 6 0 X 6 0) S := by rw [tk_so_same]; exact hX.net hP
  refine dn_run 2 (show tkDn tm_176 (6, [some (.inr (.inr (6, 0, 0))), some (.inl u), some (.inl z)], [.inl u, .inr (.inr (6, 0, 0))], (tk_so I 6 0 X, tk_so J 6 0 N, R)) _ from ?_)
  refine dn_call rfl rfl rfl rfl rfl (sm_noMoment hPX w ?_)
  show tkDn tm_176 (9, [some (.inr (.inr (6, 0, 0))), some (.inl u), some (.inl z)], [.inl (if hasM S u then 0 else 1)], (tk_so I 6 0 X, tk_so J 6 0 N, R)) _
  refine dn_if rfl rfl rfl (fun (c1 : ¬ (if hasM S u then 0 else 1) = 0) => ?_) (fun (c1 : (if hasM S u then 0 else 1) = 0) => ?_)
  · show tkDn tm_176 (27, [some (.inr (.inr (6, 0, 0))), some (.inl u), some (.inl z)], [], (tk_so I 6 0 X, tk_so J 6 0 N, R)) _
    refine dn_run 2 (show tkDn tm_176 (42, [some (.inr (.inr (6, 0, 0))), some (.inl u), some (.inl z)], [.inr (.inl 0)], (tk_so I 6 0 X, tk_so J 6 0 N, R)) _ from ?_)
    refine dn_ret0 rfl rfl rfl rfl ?_
    rw [if_neg (fun q => c1 (if_pos q.1))] at hR; exact hR
  · show tkDn tm_176 (12, [some (.inr (.inr (6, 0, 0))), some (.inl u), some (.inl z)], [], (tk_so I 6 0 X, tk_so J 6 0 N, R)) _
    refine dn_run 2 (show tkDn tm_176 (14, [some (.inr (.inr (6, 0, 0))), some (.inl u), some (.inl z)], [.inl z, .inr (.inr (6, 0, 0))], (tk_so I 6 0 X, tk_so J 6 0 N, R)) _ from ?_)
    refine dn_call rfl rfl rfl rfl rfl (sm_noMoment hPX w ?_)
    show tkDn tm_176 (17, [some (.inr (.inr (6, 0, 0))), some (.inl u), some (.inl z)], [.inl (if hasM S z then 0 else 1)], (tk_so I 6 0 X, tk_so J 6 0 N, R)) _
    refine dn_if rfl rfl rfl (fun (c2 : ¬ (if hasM S z then 0 else 1) = 0) => ?_) (fun (c2 : (if hasM S z then 0 else 1) = 0) => ?_)
    · show tkDn tm_176 (27, [some (.inr (.inr (6, 0, 0))), some (.inl u), some (.inl z)], [], (tk_so I 6 0 X, tk_so J 6 0 N, R)) _
      refine dn_run 2 (show tkDn tm_176 (42, [some (.inr (.inr (6, 0, 0))), some (.inl u), some (.inl z)], [.inr (.inl 0)], (tk_so I 6 0 X, tk_so J 6 0 N, R)) _ from ?_)
      refine dn_ret0 rfl rfl rfl rfl ?_
      rw [if_neg (fun q => c2 (if_pos q.2.1))] at hR; exact hR
    · show tkDn tm_176 (20, [some (.inr (.inr (6, 0, 0))), some (.inl u), some (.inl z)], [], (tk_so I 6 0 X, tk_so J 6 0 N, R)) _
      refine dn_run 2 (show tkDn tm_176 (24, [some (.inr (.inr (6, 0, 0))), some (.inl u), some (.inl z)], [.inl (X 0 29)], (tk_so I 6 0 X, tk_so J 6 0 N, R)) _ from ?_)
      refine dn_if rfl rfl rfl (fun (c3 : ¬ (X 0 29) = 0) => ?_) (fun (c3 : (X 0 29) = 0) => ?_)
      · show tkDn tm_176 (31, [some (.inr (.inr (6, 0, 0))), some (.inl u), some (.inl z)], [], (tk_so I 6 0 X, tk_so J 6 0 N, R)) _
        have c3 := hK.b.resolve_left c3
        have h1 : hasM S u := ite01.mp c1
        have h2 : hasM S z := ite01.mp c2
        rw [if_pos ⟨h1, h2, c3⟩] at hR
        obtain ⟨i, hi, ei, ci⟩ := hasM_nat w.1 h1
        obtain ⟨j, hj, ej, cj⟩ := hasM_nat w.1 h2
        rw [ci, cj] at hR
        subst ei; subst ej
        show tkDn tm_176 (31, [some (.inr (.inr (6, 0, 0))), some (.inl (nI i)), some (.inl (nI j))], [], (tk_so I 6 0 X, tk_so J 6 0 N, R)) _
        refine dn_run 8 (show (vp_in ((16 * (nI i)) + (nI j)) 256) ∧ tkDn tm_176 (42, [some (.inr (.inr (6, 0, 0))), some (.inl (nI i)), some (.inl (nI j))], [.inr (.inl (N 24 (((16 * (nI i)) + (nI j)).toNatClampNeg)))], (tk_so I 6 0 X, tk_so J 6 0 N, R)) _ from ⟨by rw [ix16']; exact vp_in_nI (by omega) (by omega), ?_⟩)
        rw [ix16', nI_clamp (show 16 * i + j < 2 ^ 31 by omega)]
        refine dn_ret0 rfl rfl rfl rfl ?_
        exact hR
      · show tkDn tm_176 (27, [some (.inr (.inr (6, 0, 0))), some (.inl u), some (.inl z)], [], (tk_so I 6 0 X, tk_so J 6 0 N, R)) _
        refine dn_run 2 (show tkDn tm_176 (42, [some (.inr (.inr (6, 0, 0))), some (.inl u), some (.inl z)], [.inr (.inl 0)], (tk_so I 6 0 X, tk_so J 6 0 N, R)) _ from ?_)
        refine dn_ret0 rfl rfl rfl rfl ?_
        rw [if_neg (fun q => absurd (c3.symm.trans q.2.2) (by decide))] at hR; exact hR
set_option maxRecDepth 8000 in
theorem sm_wait {I : tkI} {J : tkJ} {R : Nat → Nat} {Q : tkQ} {S : tkS} (hP : NetP (I 6 0) S) (w : WF S) {u z : Int32} (hb : I 6 0 0 11 = 0 ∨ I 6 0 0 11 = 1) (hk : I 6 0 0 11 = 1 → KnM S (I 6 0) (J 6 0)) (hQ : ∀ X N, X 0 11 = 1 → KnM S X N → mKn (I 6 0) X → Q (some (.inr (.inl (if hasM S u ∧ (0 ≤ z ∧ z < nI (sG S)) ∧ X 0 29 = 1 then N 25 (6 * u.toNatClampNeg + z.toNatClampNeg) else 0)))) (tk_so I 6 0 X, tk_so J 6 0 N, R)) : tkDn tm_177 (0, [some (.inr (.inr (6, 0, 0))), some (.inl u), some (.inl z)], [], (I, J, R)) Q := by
  have hM16 := w.1
  have hL60 := w.2.1
  have hG6 := w.2.2.1
  have hM := hP.m
  have hG := hP.g
  have hL := hP.l
  refine dn_run 1 (show tkDn tm_177 (1, [some (.inr (.inr (6, 0, 0))), some (.inl u), some (.inl z)], [.inr (.inr (6, 0, 0))], (I, J, R)) _ from ?_)
  refine dn_call rfl rfl rfl rfl rfl (sm_know hP w hb hk (fun X N h11 hK hX => ?_))
  show tkDn tm_177 (4, [some (.inr (.inr (6, 0, 0))), some (.inl u), some (.inl z)], [], (tk_so I 6 0 X, tk_so J 6 0 N, R)) _
  have hR := hQ X N h11 hK hX
  clear hQ
  have hPX : NetP (tk_so I 6 0 X 6 0) S := by rw [tk_so_same]; exact hX.net hP
  refine dn_run 2 (show tkDn tm_177 (6, [some (.inr (.inr (6, 0, 0))), some (.inl u), some (.inl z)], [.inl u, .inr (.inr (6, 0, 0))], (tk_so I 6 0 X, tk_so J 6 0 N, R)) _ from ?_)
  refine dn_call rfl rfl rfl rfl rfl (sm_noMoment hPX w ?_)
  show tkDn tm_177 (9, [some (.inr (.inr (6, 0, 0))), some (.inl u), some (.inl z)], [.inl (if hasM S u then 0 else 1)], (tk_so I 6 0 X, tk_so J 6 0 N, R)) _
  refine dn_if rfl rfl rfl (fun (c1 : ¬ (if hasM S u then 0 else 1) = 0) => ?_) (fun (c1 : (if hasM S u then 0 else 1) = 0) => ?_)
  · show tkDn tm_177 (33, [some (.inr (.inr (6, 0, 0))), some (.inl u), some (.inl z)], [], (tk_so I 6 0 X, tk_so J 6 0 N, R)) _
    refine dn_run 2 (show tkDn tm_177 (48, [some (.inr (.inr (6, 0, 0))), some (.inl u), some (.inl z)], [.inr (.inl 0)], (tk_so I 6 0 X, tk_so J 6 0 N, R)) _ from ?_)
    refine dn_ret0 rfl rfl rfl rfl ?_
    rw [if_neg (fun q => c1 (if_pos q.1))] at hR; exact hR
  · show tkDn tm_177 (12, [some (.inr (.inr (6, 0, 0))), some (.inl u), some (.inl z)], [], (tk_so I 6 0 X, tk_so J 6 0 N, R)) _
    have hGX : X 0 2 = nI (sG S) := (hX.net hP).g
    refine dn_run 6 (show tkDn tm_177 (20, [some (.inr (.inr (6, 0, 0))), some (.inl u), some (.inl z)], [.inl ((X 0 2) - 1), .inl 0, .inl z], (tk_so I 6 0 X, tk_so J 6 0 N, R)) _ from ?_)
    rw [hGX]
    show tkDn tm_177 (20, [some (.inr (.inr (6, 0, 0))), some (.inl u), some (.inl z)], [.inl (nI (sG S) - 1), .inl 0, .inl z], (tk_so I 6 0 X, tk_so J 6 0 N, R)) _
    refine dn_call rfl rfl rfl rfl rfl (sm_in ?_)
    show tkDn tm_177 (23, [some (.inr (.inr (6, 0, 0))), some (.inl u), some (.inl z)], [.inl (if 0 ≤ z ∧ z ≤ nI (sG S) - 1 then 1 else 0)], (tk_so I 6 0 X, tk_so J 6 0 N, R)) _
    refine dn_if rfl rfl rfl (fun (c2 : (if 0 ≤ z ∧ z ≤ nI (sG S) - 1 then 1 else 0) = 0) => ?_) (fun (c2 : ¬ (if 0 ≤ z ∧ z ≤ nI (sG S) - 1 then 1 else 0) = 0) => ?_)
    · show tkDn tm_177 (33, [some (.inr (.inr (6, 0, 0))), some (.inl u), some (.inl z)], [], (tk_so I 6 0 X, tk_so J 6 0 N, R)) _
      refine dn_run 2 (show tkDn tm_177 (48, [some (.inr (.inr (6, 0, 0))), some (.inl u), some (.inl z)], [.inr (.inl 0)], (tk_so I 6 0 X, tk_so J 6 0 N, R)) _ from ?_)
      refine dn_ret0 rfl rfl rfl rfl ?_
      rw [if_neg (fun q => absurd (c2.symm.trans (if_pos ⟨q.2.1.1, (le_pred (by omega)).mpr q.2.1.2⟩)) (by decide))] at hR; exact hR
    · show tkDn tm_177 (26, [some (.inr (.inr (6, 0, 0))), some (.inl u), some (.inl z)], [], (tk_so I 6 0 X, tk_so J 6 0 N, R)) _
      refine dn_run 2 (show tkDn tm_177 (30, [some (.inr (.inr (6, 0, 0))), some (.inl u), some (.inl z)], [.inl (X 0 29)], (tk_so I 6 0 X, tk_so J 6 0 N, R)) _ from ?_)
      refine dn_if rfl rfl rfl (fun (c3 : ¬ (X 0 29) = 0) => ?_) (fun (c3 : (X 0 29) = 0) => ?_)
      · show tkDn tm_177 (37, [some (.inr (.inr (6, 0, 0))), some (.inl u), some (.inl z)], [], (tk_so I 6 0 X, tk_so J 6 0 N, R)) _
        have c3 := hK.b.resolve_left c3
        have h1 : hasM S u := ite01.mp c1
        have h2 : 0 ≤ z ∧ z < nI (sG S) := by have q := Classical.byContradiction fun t => c2 (if_neg t); exact ⟨q.1, (le_pred (by omega)).mp q.2⟩
        rw [if_pos ⟨h1, h2, c3⟩] at hR
        obtain ⟨i, hi, ei, ci⟩ := hasM_nat w.1 h1
        obtain ⟨j, hj2, ej⟩ := nI_of (Int32.not_lt.mpr h2.1)
        have hj : j < sG S := by have := h2.2; rw [ej] at this; exact (nI_ltI hj2 (by omega)).mp this
        rw [ci, ej, nI_clamp hj2] at hR
        subst ei; subst ej
        show tkDn tm_177 (37, [some (.inr (.inr (6, 0, 0))), some (.inl (nI i)), some (.inl (nI j))], [], (tk_so I 6 0 X, tk_so J 6 0 N, R)) _
        refine dn_run 8 (show (vp_in ((6 * (nI i)) + (nI j)) 96) ∧ tkDn tm_177 (48, [some (.inr (.inr (6, 0, 0))), some (.inl (nI i)), some (.inl (nI j))], [.inr (.inl (N 25 (((6 * (nI i)) + (nI j)).toNatClampNeg)))], (tk_so I 6 0 X, tk_so J 6 0 N, R)) _ from ⟨by rw [ix6']; exact vp_in_nI (by omega) (by omega), ?_⟩)
        rw [ix6', nI_clamp (show 6 * i + j < 2 ^ 31 by omega)]
        refine dn_ret0 rfl rfl rfl rfl ?_
        exact hR
      · show tkDn tm_177 (33, [some (.inr (.inr (6, 0, 0))), some (.inl u), some (.inl z)], [], (tk_so I 6 0 X, tk_so J 6 0 N, R)) _
        refine dn_run 2 (show tkDn tm_177 (48, [some (.inr (.inr (6, 0, 0))), some (.inl u), some (.inl z)], [.inr (.inl 0)], (tk_so I 6 0 X, tk_so J 6 0 N, R)) _ from ?_)
        refine dn_ret0 rfl rfl rfl rfl ?_
        rw [if_neg (fun q => absurd (c3.symm.trans q.2.2) (by decide))] at hR; exact hR
set_option maxRecDepth 8000 in
theorem sm_st_loop {I : tkI} {J : tkJ} {R : Nat → Nat} {Q : tkQ} (hQ : Q (some (.inl 1)) (tk_so I 6 0 (tk_u1 (I 6 0) 33 (fillR (I 6 0 33) 16 (-9))), J, R)) : ∀ n i, i + n = 16 → tkDn tm_178 (26, [some (.inr (.inr (6, 0, 0))), some (.inl (nI i))], [], (tk_so I 6 0 (tk_u1 (I 6 0) 33 (fillR (I 6 0 33) i (-9))), J, R)) Q := by
  intro n
  induction n with
  | zero =>
    intro i hi
    have hi : i = 16 := by omega
    subst hi
    show tkDn tm_178 (26, [some (.inr (.inr (6, 0, 0))), some (.inl (nI 16))], [], (tk_so I 6 0 (tk_u1 (I 6 0) 33 (fillR (I 6 0 33) 16 (-9))), J, R)) _
    refine dn_run 2 (show tkDn tm_178 (29, [some (.inr (.inr (6, 0, 0))), some (.inl (nI 16))], [.inl 16, .inl (nI 16)], (tk_so I 6 0 (tk_u1 (I 6 0) 33 (fillR (I 6 0 33) 16 (-9))), J, R)) _ from ?_)
    refine dn_if rfl rfl rfl (fun (c : 16 ≤ (nI 16)) => ?_) (fun (c : ¬ 16 ≤ (nI 16)) => ?_)
    · show tkDn tm_178 (46, [some (.inr (.inr (6, 0, 0))), some (.inl (nI 16))], [], (tk_so I 6 0 (tk_u1 (I 6 0) 33 (fillR (I 6 0 33) 16 (-9))), J, R)) _
      refine dn_run 1 (show tkDn tm_178 (47, [some (.inr (.inr (6, 0, 0))), some (.inl (nI 16))], [.inl 1], (tk_so I 6 0 (tk_u1 (I 6 0) 33 (fillR (I 6 0 33) 16 (-9))), J, R)) _ from ?_)
      refine dn_ret0 rfl rfl rfl rfl ?_
      exact hQ
    · exact absurd (by decide) c
  | succ n ih =>
    intro i hi
    show tkDn tm_178 (26, [some (.inr (.inr (6, 0, 0))), some (.inl (nI i))], [], (tk_so I 6 0 (tk_u1 (I 6 0) 33 (fillR (I 6 0 33) i (-9))), J, R)) _
    refine dn_run 2 (show tkDn tm_178 (29, [some (.inr (.inr (6, 0, 0))), some (.inl (nI i))], [.inl 16, .inl (nI i)], (tk_so I 6 0 (tk_u1 (I 6 0) 33 (fillR (I 6 0 33) i (-9))), J, R)) _ from ?_)
    refine dn_if rfl rfl rfl (fun (c : 16 ≤ (nI i)) => ?_) (fun (c : ¬ 16 ≤ (nI i)) => ?_)
    · exact absurd c (nI_ge (b := 16) (by omega) (by omega))
    · show tkDn tm_178 (32, [some (.inr (.inr (6, 0, 0))), some (.inl (nI i))], [], (tk_so I 6 0 (tk_u1 (I 6 0) 33 (fillR (I 6 0 33) i (-9))), J, R)) _
      refine dn_run 7 (show (vp_in (nI i) 16) ∧ tkDn tm_178 (26, [some (.inr (.inr (6, 0, 0))), some (.inl ((nI i) + 1))], [], (tk_so (tk_so I 6 0 (tk_u1 (I 6 0) 33 (fillR (I 6 0 33) i (-9)))) 6 0 (tk_u2 (tk_u1 (I 6 0) 33 (fillR (I 6 0 33) i (-9))) 33 ((nI i).toNatClampNeg) (-9)), J, R)) _ from ⟨vp_in_nI (by omega) (by omega), ?_⟩)
      rw [tk_so_so]
      rw [tk_u2_u1, nI_clamp (by omega), fillR_s, nI_1]
      exact ih (i + 1) (by omega)
set_option maxRecDepth 8000 in
theorem sm_start {I : tkI} {J : tkJ} {R : Nat → Nat} {Q : tkQ} {S : tkS} (hP : NetP (I 6 0) S) (w : WF S) (hb : I 6 0 0 11 = 0 ∨ I 6 0 0 11 = 1) (hk : I 6 0 0 11 = 1 → KnM S (I 6 0) (J 6 0)) (hQ0 : ∀ X N, X 0 11 = 1 → KnM S X N → mKn (I 6 0) X → X 0 29 = 0 → Q (some (.inl (-13))) (tk_so I 6 0 X, tk_so J 6 0 N, R)) (hQ1 : ∀ {X} Y N, Y 0 11 = 1 → KnM S X N → mKn (I 6 0) X → X 0 29 = 1 → (∀ j, j < 16 → Y 33 j = -9) → Y 0 10 = 1 → Y 0 31 = 0 → (∀ s j, s ≠ 33 → ¬ (s = 0 ∧ (j = 10 ∨ j = 31)) → Y s j = X s j) → Q (some (.inl 1)) (tk_so I 6 0 Y, tk_so J 6 0 N, R)) : tkDn tm_178 (0, [some (.inr (.inr (6, 0, 0))), none], [], (I, J, R)) Q := by
  refine dn_run 1 (show tkDn tm_178 (1, [some (.inr (.inr (6, 0, 0))), none], [.inr (.inr (6, 0, 0))], (I, J, R)) _ from ?_)
  refine dn_call rfl rfl rfl rfl rfl (sm_know hP w hb hk (fun X N h11 hK hX => ?_))
  show tkDn tm_178 (4, [some (.inr (.inr (6, 0, 0))), none], [], (tk_so I 6 0 X, tk_so J 6 0 N, R)) _
  refine dn_run 2 (show tkDn tm_178 (8, [some (.inr (.inr (6, 0, 0))), none], [.inl (X 0 29)], (tk_so I 6 0 X, tk_so J 6 0 N, R)) _ from ?_)
  refine dn_if rfl rfl rfl (fun (c1 : ¬ (X 0 29) = 0) => ?_) (fun (c1 : (X 0 29) = 0) => ?_)
  · show tkDn tm_178 (14, [some (.inr (.inr (6, 0, 0))), none], [], (tk_so I 6 0 X, tk_so J 6 0 N, R)) _
    have c1 := hK.b.resolve_left c1
    refine dn_run 8 (show (1 = 0 ∨ 1 = 1) ∧ tkDn tm_178 (26, [some (.inr (.inr (6, 0, 0))), some (.inl 0)], [], (tk_so (tk_so (tk_so I 6 0 X) 6 0 (tk_u2 X 0 10 1)) 6 0 (tk_u2 (tk_u2 X 0 10 1) 0 31 0), tk_so J 6 0 N, R)) _ from ⟨Or.inr rfl, ?_⟩)
    rw [tk_so_so, tk_so_so]
    obtain ⟨I1, hI1⟩ : ∃ I1, I1 = tk_so I 6 0 (tk_u2 (tk_u2 X 0 10 1) 0 31 0) := ⟨_, rfl⟩
    have h1 : I1 6 0 = tk_u2 (tk_u2 X 0 10 1) 0 31 0 := by rw [hI1, tk_so_same]
    rw [← hI1]
    have key := sm_st_loop (I := I1) (J := tk_so J 6 0 N) (R := R) (Q := Q) ?_ 16 0 rfl
    · rw [fillR_0, tk_u1_id, tk_so_id] at key; exact key
    rw [h1, hI1, tk_so_so]
    refine hQ1 _ N ?_ hK hX c1 (fun j hj => ?_) ?_ ?_ (fun s j h2 h3 => ?_)
    · rw [tk_u1_ne (by decide), tk_u2_0 (by decide), tk_u2_0 (by decide)]; exact h11
    · rw [tk_u1_same]; exact if_pos hj
    · rw [tk_u1_ne (by decide), tk_u2_0 (by decide), tk_u2_1]
    · rw [tk_u1_ne (by decide), tk_u2_1]
    · rw [tk_u1_ne h2, tk_u2_0 (by omega), tk_u2_0 (by omega)]
  · show tkDn tm_178 (11, [some (.inr (.inr (6, 0, 0))), none], [], (tk_so I 6 0 X, tk_so J 6 0 N, R)) _
    refine dn_run 1 (show tkDn tm_178 (13, [some (.inr (.inr (6, 0, 0))), none], [.inl (-13)], (tk_so I 6 0 X, tk_so J 6 0 N, R)) _ from ?_)
    refine dn_ret0 rfl rfl rfl rfl ?_
    exact hQ0 X N h11 hK hX c1
set_option maxRecDepth 8000 in
theorem sm_came {I : tkI} {J : tkJ} {R : Nat → Nat} {Q : tkQ} {T : Nat → Int32} (hT : ∀ j, j < 16 → I 6 0 33 j = T j) (hO : TOk T) {S : tkS} (hP : NetP (I 6 0) S) (w : WF S) {on t : Int32} (ht : I 6 0 0 31 = t) (hon : I 6 0 0 10 = on) (hb : on = 0 ∨ on = 1) {u : Int32} (hQ : Q (some (.inl (if hasM S u then (if on = 1 then T u.toNatClampNeg else -13) else -11))) (I, J, R)) : tkDn tm_186 (0, [some (.inr (.inr (6, 0, 0))), some (.inl u)], [], (I, J, R)) Q := by
  have hM16 := w.1
  have hL60 := w.2.1
  have hG6 := w.2.2.1
  have hM := hP.m
  have hG := hP.g
  have hL := hP.l
  refine dn_run 2 (show tkDn tm_186 (2, [some (.inr (.inr (6, 0, 0))), some (.inl u)], [.inl u, .inr (.inr (6, 0, 0))], (I, J, R)) _ from ?_)
  refine dn_call rfl rfl rfl rfl rfl (sm_noMoment hP w ?_)
  show tkDn tm_186 (5, [some (.inr (.inr (6, 0, 0))), some (.inl u)], [.inl (if hasM S u then 0 else 1)], (I, J, R)) _
  refine dn_if rfl rfl rfl (fun (c0 : (if hasM S u then 0 else 1) = 0) => ?_) (fun (c0 : ¬ (if hasM S u then 0 else 1) = 0) => ?_)
  · show tkDn tm_186 (11, [some (.inr (.inr (6, 0, 0))), some (.inl u)], [], (I, J, R)) _
    have h1 : hasM S u := ite01.mp c0
    rw [if_pos h1] at hQ
    refine dn_run 2 (show tkDn tm_186 (15, [some (.inr (.inr (6, 0, 0))), some (.inl u)], [.inl (I 6 0 0 10)], (I, J, R)) _ from ?_)
    rw [hon]
    show tkDn tm_186 (15, [some (.inr (.inr (6, 0, 0))), some (.inl u)], [.inl on], (I, J, R)) _
    refine dn_if rfl rfl rfl (fun (c1 : on = 0) => ?_) (fun (c1 : ¬ on = 0) => ?_)
    · show tkDn tm_186 (27, [some (.inr (.inr (6, 0, 0))), some (.inl u)], [], (I, J, R)) _
      refine dn_run 1 (show tkDn tm_186 (29, [some (.inr (.inr (6, 0, 0))), some (.inl u)], [.inl (-13)], (I, J, R)) _ from ?_)
      refine dn_ret0 rfl rfl rfl rfl ?_
      rw [if_neg (fun q => absurd (c1.symm.trans q) (by decide))] at hQ; exact hQ
    · show tkDn tm_186 (18, [some (.inr (.inr (6, 0, 0))), some (.inl u)], [], (I, J, R)) _
      rw [if_pos (hb.resolve_left c1)] at hQ
      obtain ⟨i, hi, ei, ci⟩ := hasM_nat w.1 h1
      rw [ci] at hQ
      subst ei
      show tkDn tm_186 (18, [some (.inr (.inr (6, 0, 0))), some (.inl (nI i))], [], (I, J, R)) _
      refine dn_run 5 (show (vp_in (nI i) 16) ∧ tkDn tm_186 (29, [some (.inr (.inr (6, 0, 0))), some (.inl (nI i))], [.inl (I 6 0 33 ((nI i).toNatClampNeg))], (I, J, R)) _ from ⟨vp_in_nI (by omega) (by omega), ?_⟩)
      rw [nI_clamp (show i < 2 ^ 31 by omega), hT i (by omega)]
      refine dn_ret0 rfl rfl rfl rfl ?_
      exact hQ
  · show tkDn tm_186 (8, [some (.inr (.inr (6, 0, 0))), some (.inl u)], [], (I, J, R)) _
    refine dn_run 1 (show tkDn tm_186 (10, [some (.inr (.inr (6, 0, 0))), some (.inl u)], [.inl (-11)], (I, J, R)) _ from ?_)
    refine dn_ret0 rfl rfl rfl rfl ?_
    rw [if_neg (fun q => c0 (if_pos q))] at hQ; exact hQ
set_option maxRecDepth 8000 in
theorem sm_now {I : tkI} {J : tkJ} {R : Nat → Nat} {Q : tkQ} {on t : Int32} (ht : I 6 0 0 31 = t) (hon : I 6 0 0 10 = on) (hb : on = 0 ∨ on = 1) (hQ : Q (some (.inl (if on = 1 then t else -13))) (I, J, R)) : tkDn tm_188 (0, [some (.inr (.inr (6, 0, 0)))], [], (I, J, R)) Q := by
  refine dn_run 2 (show tkDn tm_188 (4, [some (.inr (.inr (6, 0, 0)))], [.inl (I 6 0 0 10)], (I, J, R)) _ from ?_)
  rw [hon]
  show tkDn tm_188 (4, [some (.inr (.inr (6, 0, 0)))], [.inl on], (I, J, R)) _
  refine dn_if rfl rfl rfl (fun (c1 : on = 0) => ?_) (fun (c1 : ¬ on = 0) => ?_)
  · show tkDn tm_188 (14, [some (.inr (.inr (6, 0, 0)))], [], (I, J, R)) _
    refine dn_run 1 (show tkDn tm_188 (16, [some (.inr (.inr (6, 0, 0)))], [.inl (-13)], (I, J, R)) _ from ?_)
    refine dn_ret0 rfl rfl rfl rfl ?_
    rw [if_neg (fun q => absurd (c1.symm.trans q) (by decide))] at hQ; exact hQ
  · show tkDn tm_188 (7, [some (.inr (.inr (6, 0, 0)))], [], (I, J, R)) _
    refine dn_run 3 (show tkDn tm_188 (16, [some (.inr (.inr (6, 0, 0)))], [.inl (I 6 0 0 31)], (I, J, R)) _ from ?_)
    rw [ht]
    refine dn_ret0 rfl rfl rfl rfl ?_
    rw [if_pos (hb.resolve_left c1)] at hQ; exact hQ
set_option maxRecDepth 8000 in
theorem sm_may {I : tkI} {J : tkJ} {R : Nat → Nat} {Q : tkQ} {T : Nat → Int32} (hT : ∀ j, j < 16 → I 6 0 33 j = T j) (hO : TOk T) {S : tkS} (hP : NetP (I 6 0) S) (w : WF S) {on t : Int32} (ht : I 6 0 0 31 = t) (hon : I 6 0 0 10 = on) (hb : on = 0 ∨ on = 1) {e v : tkD} (he : on = 1 → RowP (sM S) (J 6 0 24) e) (hv : on = 1 → WRow (J 6 0 25) v) {u : Int32} (hQ : ∀ N, (∀ s, s ≠ 0 → N s = J 6 0 s) → Q (some (.inl (if hasM S u then (if on = 1 ∧ opn S T u.toNatClampNeg then (if ftF S e v T t u.toNatClampNeg = t.toInt64 then 1 else 0) else -13) else -11))) (I, tk_so J 6 0 N, R)) : tkDn tm_187 (0, [some (.inr (.inr (6, 0, 0))), some (.inl u)], [], (I, J, R)) Q := by
  have hM16 := w.1
  have hL60 := w.2.1
  have hG6 := w.2.2.1
  have hM := hP.m
  have hG := hP.g
  have hL := hP.l
  refine dn_run 2 (show tkDn tm_187 (2, [some (.inr (.inr (6, 0, 0))), some (.inl u)], [.inl u, .inr (.inr (6, 0, 0))], (I, J, R)) _ from ?_)
  refine dn_call rfl rfl rfl rfl rfl (sm_noMoment hP w ?_)
  show tkDn tm_187 (5, [some (.inr (.inr (6, 0, 0))), some (.inl u)], [.inl (if hasM S u then 0 else 1)], (I, J, R)) _
  refine dn_if rfl rfl rfl (fun (c0 : (if hasM S u then 0 else 1) = 0) => ?_) (fun (c0 : ¬ (if hasM S u then 0 else 1) = 0) => ?_)
  · show tkDn tm_187 (11, [some (.inr (.inr (6, 0, 0))), some (.inl u)], [], (I, J, R)) _
    have h1 : hasM S u := ite01.mp c0
    rw [if_pos h1] at hQ
    obtain ⟨i, hi, ei, ci⟩ := hasM_nat w.1 h1
    rw [ci] at hQ
    subst ei
    show tkDn tm_187 (11, [some (.inr (.inr (6, 0, 0))), some (.inl (nI i))], [], (I, J, R)) _
    refine dn_run 2 (show tkDn tm_187 (15, [some (.inr (.inr (6, 0, 0))), some (.inl (nI i))], [.inl (I 6 0 0 10)], (I, J, R)) _ from ?_)
    rw [hon]
    show tkDn tm_187 (15, [some (.inr (.inr (6, 0, 0))), some (.inl (nI i))], [.inl on], (I, J, R)) _
    refine dn_if rfl rfl rfl (fun (c1 : on = 0) => ?_) (fun (c1 : ¬ on = 0) => ?_)
    · show tkDn tm_187 (34, [some (.inr (.inr (6, 0, 0))), some (.inl (nI i))], [], (I, J, R)) _
      refine dn_run 2 (show tkDn tm_187 (52, [some (.inr (.inr (6, 0, 0))), some (.inl (nI i))], [.inl (-13)], (I, J, R)) _ from ?_)
      refine dn_ret0 rfl rfl rfl rfl ?_
      rw [if_neg (fun q => absurd (c1.symm.trans q.1) (by decide))] at hQ
      have := hQ (J 6 0) (fun _ _ => rfl)
      rw [tk_so_id] at this
      exact this
    · show tkDn tm_187 (18, [some (.inr (.inr (6, 0, 0))), some (.inl (nI i))], [], (I, J, R)) _
      have on1 := hb.resolve_left c1
      refine dn_run 2 (show tkDn tm_187 (20, [some (.inr (.inr (6, 0, 0))), some (.inl (nI i))], [.inl (nI i), .inr (.inr (6, 0, 0))], (I, J, R)) _ from ?_)
      refine dn_call rfl rfl rfl rfl rfl (sm_giftTo hP w (by omega) ?_)
      show tkDn tm_187 (23, [some (.inr (.inr (6, 0, 0))), some (.inl (nI i))], [.inl (if gt S i < sG S then nI (gt S i) else -1)], (I, J, R)) _
      refine dn_if rfl rfl rfl (fun (c2 : 0 ≤ (if gt S i < sG S then nI (gt S i) else -1)) => ?_) (fun (c2 : ¬ 0 ≤ (if gt S i < sG S then nI (gt S i) else -1)) => ?_)
      · show tkDn tm_187 (34, [some (.inr (.inr (6, 0, 0))), some (.inl (nI i))], [], (I, J, R)) _
        refine dn_run 2 (show tkDn tm_187 (52, [some (.inr (.inr (6, 0, 0))), some (.inl (nI i))], [.inl (-13)], (I, J, R)) _ from ?_)
        refine dn_ret0 rfl rfl rfl rfl ?_
        rw [if_neg (fun q => q.2.2 (Classical.byContradiction fun z => absurd c2 (by rw [if_neg z]; decide)))] at hQ
        have := hQ (J 6 0) (fun _ _ => rfl)
        rw [tk_so_id] at this
        exact this
      · show tkDn tm_187 (26, [some (.inr (.inr (6, 0, 0))), some (.inl (nI i))], [], (I, J, R)) _
        have cg : ¬ gt S i < sG S := fun q => c2 (by rw [if_pos q]; exact Int32.not_lt.mp (nI_pos (by omega)))
        refine dn_run 2 (show tkDn tm_187 (28, [some (.inr (.inr (6, 0, 0))), some (.inl (nI i))], [.inl (nI i), .inr (.inr (6, 0, 0))], (I, J, R)) _ from ?_)
        refine dn_call rfl rfl rfl rfl rfl (sm_hasCome hT hO (by omega) ?_)
        show tkDn tm_187 (31, [some (.inr (.inr (6, 0, 0))), some (.inl (nI i))], [.inl (if T i = -9 then 0 else 1)], (I, J, R)) _
        refine dn_if rfl rfl rfl (fun (c3 : (if T i = -9 then 0 else 1) = 0) => ?_) (fun (c3 : ¬ (if T i = -9 then 0 else 1) = 0) => ?_)
        · show tkDn tm_187 (39, [some (.inr (.inr (6, 0, 0))), some (.inl (nI i))], [], (I, J, R)) _
          rw [if_pos ⟨on1, ite01.mp c3, cg⟩] at hQ
          refine dn_run 2 (show tkDn tm_187 (41, [some (.inr (.inr (6, 0, 0))), some (.inl (nI i))], [.inl (nI i), .inr (.inr (6, 0, 0))], (I, J, R)) _ from ?_)
          have key := sm_mayCome (J := J) (R := R) hT hO hP w (N0 := J 6 0) (he on1) (hv on1) hi ht (Q := fun r w2 => tkDn tm_187 (44, [some (.inr (.inr (6, 0, 0))), some (.inl (nI i))], r.toList ++ [], w2) Q) (fun N hN => ?_)
          · rw [tk_so_id] at key; exact dn_call rfl rfl rfl rfl rfl key
          show tkDn tm_187 (44, [some (.inr (.inr (6, 0, 0))), some (.inl (nI i))], [.inl (if canC S e v T t i then 1 else 0)], (I, tk_so J 6 0 N, R)) _
          refine dn_if rfl rfl rfl (fun (c4 : (if canC S e v T t i then 1 else 0) = 0) => ?_) (fun (c4 : ¬ (if canC S e v T t i then 1 else 0) = 0) => ?_)
          · show tkDn tm_187 (51, [some (.inr (.inr (6, 0, 0))), some (.inl (nI i))], [], (I, tk_so J 6 0 N, R)) _
            refine dn_run 1 (show tkDn tm_187 (52, [some (.inr (.inr (6, 0, 0))), some (.inl (nI i))], [.inl 0], (I, tk_so J 6 0 N, R)) _ from ?_)
            refine dn_ret0 rfl rfl rfl rfl ?_
            have := hQ N hN
            rw [if_neg (fun z => ite10.mp c4 ⟨⟨ite01.mp c3, cg⟩, z⟩)] at this; exact this
          · show tkDn tm_187 (47, [some (.inr (.inr (6, 0, 0))), some (.inl (nI i))], [], (I, tk_so J 6 0 N, R)) _
            refine dn_run 2 (show tkDn tm_187 (52, [some (.inr (.inr (6, 0, 0))), some (.inl (nI i))], [.inl 1], (I, tk_so J 6 0 N, R)) _ from ?_)
            refine dn_ret0 rfl rfl rfl rfl ?_
            have := hQ N hN
            rw [if_pos (Classical.byContradiction fun z => c4 (ite10.mpr (fun y => z y.2)))] at this; exact this
        · show tkDn tm_187 (34, [some (.inr (.inr (6, 0, 0))), some (.inl (nI i))], [], (I, J, R)) _
          refine dn_run 2 (show tkDn tm_187 (52, [some (.inr (.inr (6, 0, 0))), some (.inl (nI i))], [.inl (-13)], (I, J, R)) _ from ?_)
          refine dn_ret0 rfl rfl rfl rfl ?_
          rw [if_neg (fun q => c3 (ite01.mpr q.2.1))] at hQ
          have := hQ (J 6 0) (fun _ _ => rfl)
          rw [tk_so_id] at this
          exact this
  · show tkDn tm_187 (8, [some (.inr (.inr (6, 0, 0))), some (.inl u)], [], (I, J, R)) _
    refine dn_run 1 (show tkDn tm_187 (10, [some (.inr (.inr (6, 0, 0))), some (.inl u)], [.inl (-11)], (I, J, R)) _ from ?_)
    refine dn_ret0 rfl rfl rfl rfl ?_
    rw [if_neg (fun q => c0 (if_pos q))] at hQ
    have := hQ (J 6 0) (fun _ _ => rfl)
    rw [tk_so_id] at this
    exact this
set_option maxRecDepth 8000 in
theorem sm_happen {I : tkI} {J : tkJ} {R : Nat → Nat} {Q : tkQ} {T : Nat → Int32} (hT : ∀ j, j < 16 → I 6 0 33 j = T j) (hO : TOk T) {S : tkS} (hP : NetP (I 6 0) S) (w : WF S) {on t : Int32} (ht : I 6 0 0 31 = t) (hon : I 6 0 0 10 = on) (hb : on = 0 ∨ on = 1) {u : Int32} (hQ0 : ¬ hasM S u → Q (some (.inl (-11))) (I, J, R)) (hQ1 : hasM S u → ¬ (on = 1 ∧ cgvF S T t u.toNatClampNeg) → Q (some (.inl (-13))) (I, J, R)) (hQ2 : hasM S u → on = 1 → cgvF S T t u.toNatClampNeg → Q (some (.inl 1)) (tk_so I 6 0 (tk_u2 (I 6 0) 33 u.toNatClampNeg t), J, R)) : tkDn tm_183 (0, [some (.inr (.inr (6, 0, 0))), some (.inl u), none], [], (I, J, R)) Q := by
  have hM16 := w.1
  have hL60 := w.2.1
  have hG6 := w.2.2.1
  have hM := hP.m
  have hG := hP.g
  have hL := hP.l
  refine dn_run 2 (show tkDn tm_183 (2, [some (.inr (.inr (6, 0, 0))), some (.inl u), none], [.inl u, .inr (.inr (6, 0, 0))], (I, J, R)) _ from ?_)
  refine dn_call rfl rfl rfl rfl rfl (sm_noMoment hP w ?_)
  show tkDn tm_183 (5, [some (.inr (.inr (6, 0, 0))), some (.inl u), none], [.inl (if hasM S u then 0 else 1)], (I, J, R)) _
  refine dn_if rfl rfl rfl (fun (c0 : (if hasM S u then 0 else 1) = 0) => ?_) (fun (c0 : ¬ (if hasM S u then 0 else 1) = 0) => ?_)
  · show tkDn tm_183 (11, [some (.inr (.inr (6, 0, 0))), some (.inl u), none], [], (I, J, R)) _
    have h1 : hasM S u := ite01.mp c0
    obtain ⟨i, hi, ei, ci⟩ := hasM_nat w.1 h1
    rw [ci] at hQ1 hQ2
    subst ei
    show tkDn tm_183 (11, [some (.inr (.inr (6, 0, 0))), some (.inl (nI i)), none], [], (I, J, R)) _
    refine dn_run 2 (show tkDn tm_183 (13, [some (.inr (.inr (6, 0, 0))), some (.inl (nI i)), none], [.inl (nI i), .inr (.inr (6, 0, 0))], (I, J, R)) _ from ?_)
    refine dn_call rfl rfl rfl rfl rfl (sm_giftTo hP w (by omega) ?_)
    show tkDn tm_183 (16, [some (.inr (.inr (6, 0, 0))), some (.inl (nI i)), none], [.inl (if gt S i < sG S then nI (gt S i) else -1)], (I, J, R)) _
    refine dn_run 3 (show tkDn tm_183 (21, [some (.inr (.inr (6, 0, 0))), some (.inl (nI i)), some (.inl (if gt S i < sG S then nI (gt S i) else -1))], [.inl (I 6 0 0 10)], (I, J, R)) _ from ?_)
    rw [hon]
    show tkDn tm_183 (21, [some (.inr (.inr (6, 0, 0))), some (.inl (nI i)), some (.inl (if gt S i < sG S then nI (gt S i) else -1))], [.inl on], (I, J, R)) _
    refine dn_if rfl rfl rfl (fun (c1 : on = 0) => ?_) (fun (c1 : ¬ on = 0) => ?_)
    · show tkDn tm_183 (91, [some (.inr (.inr (6, 0, 0))), some (.inl (nI i)), some (.inl (if gt S i < sG S then nI (gt S i) else -1))], [], (I, J, R)) _
      refine dn_run 1 (show tkDn tm_183 (93, [some (.inr (.inr (6, 0, 0))), some (.inl (nI i)), some (.inl (if gt S i < sG S then nI (gt S i) else -1))], [.inl (-13)], (I, J, R)) _ from ?_)
      refine dn_ret0 rfl rfl rfl rfl ?_
      exact hQ1 h1 (fun q => absurd (c1.symm.trans q.1) (by decide))
    · show tkDn tm_183 (24, [some (.inr (.inr (6, 0, 0))), some (.inl (nI i)), some (.inl (if gt S i < sG S then nI (gt S i) else -1))], [], (I, J, R)) _
      have on1 := hb.resolve_left c1
      refine dn_run 1 (show tkDn tm_183 (25, [some (.inr (.inr (6, 0, 0))), some (.inl (nI i)), some (.inl (if gt S i < sG S then nI (gt S i) else -1))], [.inl (if gt S i < sG S then nI (gt S i) else -1)], (I, J, R)) _ from ?_)
      refine dn_if rfl rfl rfl (fun (c2 : (if gt S i < sG S then nI (gt S i) else -1) < 0) => ?_) (fun (c2 : ¬ (if gt S i < sG S then nI (gt S i) else -1) < 0) => ?_)
      · show tkDn tm_183 (91, [some (.inr (.inr (6, 0, 0))), some (.inl (nI i)), some (.inl (if gt S i < sG S then nI (gt S i) else -1))], [], (I, J, R)) _
        refine dn_run 1 (show tkDn tm_183 (93, [some (.inr (.inr (6, 0, 0))), some (.inl (nI i)), some (.inl (if gt S i < sG S then nI (gt S i) else -1))], [.inl (-13)], (I, J, R)) _ from ?_)
        refine dn_ret0 rfl rfl rfl rfl ?_
        exact hQ1 h1 (fun q => absurd c2 (by rw [if_pos q.2.1]; exact nI_pos (by have := q.2.1; omega)))
      · show tkDn tm_183 (28, [some (.inr (.inr (6, 0, 0))), some (.inl (nI i)), some (.inl (if gt S i < sG S then nI (gt S i) else -1))], [], (I, J, R)) _
        have hg : gt S i < sG S := Classical.byContradiction fun q => c2 (by rw [if_neg q]; decide)
        have hf := w.fM (w.gl hg)
        have hgl := w.gl hg
        have e9 := hP.gl w hg
        have e7 := hP.hi w hgl
        have e6 := hP.lo w hgl
        rw [if_pos hg]
        show tkDn tm_183 (28, [some (.inr (.inr (6, 0, 0))), some (.inl (nI i)), some (.inl (nI (gt S i)))], [], (I, J, R)) _
        refine dn_run 2 (show tkDn tm_183 (30, [some (.inr (.inr (6, 0, 0))), some (.inl (nI i)), some (.inl (nI (gt S i)))], [.inl (nI i), .inr (.inr (6, 0, 0))], (I, J, R)) _ from ?_)
        refine dn_call rfl rfl rfl rfl rfl (sm_hasCome hT hO (by omega) ?_)
        show tkDn tm_183 (33, [some (.inr (.inr (6, 0, 0))), some (.inl (nI i)), some (.inl (nI (gt S i)))], [.inl (if T i = -9 then 0 else 1)], (I, J, R)) _
        refine dn_if rfl rfl rfl (fun (c3 : ¬ (if T i = -9 then 0 else 1) = 0) => ?_) (fun (c3 : (if T i = -9 then 0 else 1) = 0) => ?_)
        · show tkDn tm_183 (91, [some (.inr (.inr (6, 0, 0))), some (.inl (nI i)), some (.inl (nI (gt S i)))], [], (I, J, R)) _
          refine dn_run 1 (show tkDn tm_183 (93, [some (.inr (.inr (6, 0, 0))), some (.inl (nI i)), some (.inl (nI (gt S i)))], [.inl (-13)], (I, J, R)) _ from ?_)
          refine dn_ret0 rfl rfl rfl rfl ?_
          exact hQ1 h1 (fun q => c3 (ite01.mpr q.2.2.1))
        · show tkDn tm_183 (36, [some (.inr (.inr (6, 0, 0))), some (.inl (nI i)), some (.inl (nI (gt S i)))], [], (I, J, R)) _
          refine dn_run 3 (show tkDn tm_183 (39, [some (.inr (.inr (6, 0, 0))), some (.inl (nI i)), some (.inl (nI (gt S i)))], [.inl (nI (gt S i)), .inr (.inr (6, 0, 0)), .inr (.inr (6, 0, 0))], (I, J, R)) _ from ?_)
          refine dn_call rfl rfl rfl rfl rfl (sm_begin hP w hg ?_)
          show tkDn tm_183 (42, [some (.inr (.inr (6, 0, 0))), some (.inl (nI i)), some (.inl (nI (gt S i)))], [.inl (nI (sf S (sgl S (gt S i)))), .inr (.inr (6, 0, 0))], (I, J, R)) _
          refine dn_call rfl rfl rfl rfl rfl (sm_hasCome hT hO (by omega) ?_)
          show tkDn tm_183 (45, [some (.inr (.inr (6, 0, 0))), some (.inl (nI i)), some (.inl (nI (gt S i)))], [.inl (if T (sf S (sgl S (gt S i))) = -9 then 0 else 1)], (I, J, R)) _
          refine dn_if rfl rfl rfl (fun (c4 : (if T (sf S (sgl S (gt S i))) = -9 then 0 else 1) = 0) => ?_) (fun (c4 : ¬ (if T (sf S (sgl S (gt S i))) = -9 then 0 else 1) = 0) => ?_)
          · show tkDn tm_183 (91, [some (.inr (.inr (6, 0, 0))), some (.inl (nI i)), some (.inl (nI (gt S i)))], [], (I, J, R)) _
            refine dn_run 1 (show tkDn tm_183 (93, [some (.inr (.inr (6, 0, 0))), some (.inl (nI i)), some (.inl (nI (gt S i)))], [.inl (-13)], (I, J, R)) _ from ?_)
            refine dn_ret0 rfl rfl rfl rfl ?_
            exact hQ1 h1 (fun q => q.2.2.2.1 (ite01.mp c4))
          · show tkDn tm_183 (48, [some (.inr (.inr (6, 0, 0))), some (.inl (nI i)), some (.inl (nI (gt S i)))], [], (I, J, R)) _
            refine dn_run 6 (show tkDn tm_183 (58, [some (.inr (.inr (6, 0, 0))), some (.inl (nI i)), some (.inl (nI (gt S i)))], [.inl (nI (gt S i)), .inr (.inr (6, 0, 0)), .inr (.inr (6, 0, 33)), .inl (I 6 0 0 31)], (I, J, R)) _ from ?_)
            refine dn_call rfl rfl rfl rfl rfl (sm_begin hP w hg ?_)
            show tkDn tm_183 (61, [some (.inr (.inr (6, 0, 0))), some (.inl (nI i)), some (.inl (nI (gt S i)))], [.inl (nI (sf S (sgl S (gt S i)))), .inr (.inr (6, 0, 33)), .inl (I 6 0 0 31)], (I, J, R)) _
            refine dn_run 16 (show (vp_in (nI (sf S (sgl S (gt S i)))) 16) ∧ (vp_in (nI (gt S i)) 6) ∧ (vp_in (I 6 0 9 ((nI (gt S i)).toNatClampNeg)) 60) ∧ (vp_in (nI (gt S i)) 6) ∧ (vp_in (I 6 0 9 ((nI (gt S i)).toNatClampNeg)) 60) ∧ tkDn tm_183 (85, [some (.inr (.inr (6, 0, 0))), some (.inl (nI i)), some (.inl (nI (gt S i)))], [.inl (I 6 0 7 ((I 6 0 9 ((nI (gt S i)).toNatClampNeg)).toNatClampNeg)), .inl (I 6 0 6 ((I 6 0 9 ((nI (gt S i)).toNatClampNeg)).toNatClampNeg)), .inl ((I 6 0 0 31) - (I 6 0 33 ((nI (sf S (sgl S (gt S i)))).toNatClampNeg)))], (I, J, R)) _ from ⟨vp_in_nI (by omega) (by omega), vp_in_nI (by omega) (by omega), by rw [e9]; exact vp_in_nI (by omega) (by omega), vp_in_nI (by omega) (by omega), by rw [e9]; exact vp_in_nI (by omega) (by omega), ?_⟩)
            rw [e9, e7, e6, nI_clamp (show sf S (sgl S (gt S i)) < 2 ^ 31 by omega), hT (sf S (sgl S (gt S i))) (by omega), ht]
            show tkDn tm_183 (85, [some (.inr (.inr (6, 0, 0))), some (.inl (nI i)), some (.inl (nI (gt S i)))], [.inl (shi S (sgl S (gt S i))), .inl (slo S (sgl S (gt S i))), .inl (t - T (sf S (sgl S (gt S i))))], (I, J, R)) _
            refine dn_call rfl rfl rfl rfl rfl (sm_in ?_)
            show tkDn tm_183 (88, [some (.inr (.inr (6, 0, 0))), some (.inl (nI i)), some (.inl (nI (gt S i)))], [.inl (if slo S (sgl S (gt S i)) ≤ t - T (sf S (sgl S (gt S i))) ∧ t - T (sf S (sgl S (gt S i))) ≤ shi S (sgl S (gt S i)) then 1 else 0)], (I, J, R)) _
            refine dn_if rfl rfl rfl (fun (c5 : ¬ (if slo S (sgl S (gt S i)) ≤ t - T (sf S (sgl S (gt S i))) ∧ t - T (sf S (sgl S (gt S i))) ≤ shi S (sgl S (gt S i)) then 1 else 0) = 0) => ?_) (fun (c5 : (if slo S (sgl S (gt S i)) ≤ t - T (sf S (sgl S (gt S i))) ∧ t - T (sf S (sgl S (gt S i))) ≤ shi S (sgl S (gt S i)) then 1 else 0) = 0) => ?_)
            · show tkDn tm_183 (94, [some (.inr (.inr (6, 0, 0))), some (.inl (nI i)), some (.inl (nI (gt S i)))], [], (I, J, R)) _
              refine dn_run 7 (show (vp_in (nI i) 16) ∧ tkDn tm_183 (105, [some (.inr (.inr (6, 0, 0))), some (.inl (nI i)), some (.inl (nI (gt S i)))], [.inl 1], (tk_so I 6 0 (tk_u2 (I 6 0) 33 ((nI i).toNatClampNeg) (I 6 0 0 31)), J, R)) _ from ⟨vp_in_nI (by omega) (by omega), ?_⟩)
              rw [nI_clamp (show i < 2 ^ 31 by omega), ht]
              have c5 := Classical.byContradiction fun z => c5 (if_neg z)
              refine dn_ret0 rfl rfl rfl rfl ?_
              exact hQ2 h1 on1 ⟨hg, ite01.mp c3, fun z => c4 (ite01.mpr z), c5.1, c5.2⟩
            · show tkDn tm_183 (91, [some (.inr (.inr (6, 0, 0))), some (.inl (nI i)), some (.inl (nI (gt S i)))], [], (I, J, R)) _
              refine dn_run 1 (show tkDn tm_183 (93, [some (.inr (.inr (6, 0, 0))), some (.inl (nI i)), some (.inl (nI (gt S i)))], [.inl (-13)], (I, J, R)) _ from ?_)
              refine dn_ret0 rfl rfl rfl rfl ?_
              exact hQ1 h1 (fun q => absurd (c5.symm.trans (if_pos ⟨q.2.2.2.2.1, q.2.2.2.2.2⟩)) (by decide))
  · show tkDn tm_183 (8, [some (.inr (.inr (6, 0, 0))), some (.inl u), none], [], (I, J, R)) _
    refine dn_run 1 (show tkDn tm_183 (10, [some (.inr (.inr (6, 0, 0))), some (.inl u), none], [.inl (-11)], (I, J, R)) _ from ?_)
    refine dn_ret0 rfl rfl rfl rfl ?_
    exact hQ0 (fun q => c0 (if_pos q))
def ckF (S : tkS) (T : Nat → Int32) : Int32 := if 0 < ncF T (sM S) then 0 else if fbF S T (sL S) 0 = -9 then 1 else -20 - fbF S T (sL S) 0
set_option maxRecDepth 8000 in
theorem sm_ck2 {I : tkI} {J : tkJ} {R : Nat → Nat} {Q : tkQ} {T : Nat → Int32} (hT : ∀ j, j < 16 → I 6 0 33 j = T j) (hO : TOk T) {S : tkS} (hP : NetP (I 6 0) S) (w : WF S) (hQ : Q (some (.inl (if fbF S T (sL S) 0 = -9 then 1 else -20 - fbF S T (sL S) 0))) (I, J, R)) : ∀ n c, c + n = sL S → fbF S T n c = fbF S T (sL S) 0 → tkDn tm_189 (38, [some (.inr (.inr (6, 0, 0))), some (.inl (nI c))], [], (I, J, R)) Q := by
  have hM16 := w.1
  have hL60 := w.2.1
  have hG6 := w.2.2.1
  have hM := hP.m
  have hG := hP.g
  have hL := hP.l
  intro n
  induction n with
  | zero =>
    intro c hc h
    show tkDn tm_189 (38, [some (.inr (.inr (6, 0, 0))), some (.inl (nI c))], [], (I, J, R)) _
    refine dn_run 3 (show tkDn tm_189 (43, [some (.inr (.inr (6, 0, 0))), some (.inl (nI c))], [.inl (I 6 0 0 1), .inl (nI c)], (I, J, R)) _ from ?_)
    rw [hL]
    show tkDn tm_189 (43, [some (.inr (.inr (6, 0, 0))), some (.inl (nI c))], [.inl (nI (sL S)), .inl (nI c)], (I, J, R)) _
    refine dn_if rfl rfl rfl (fun (c0 : (nI (sL S)) ≤ (nI c)) => ?_) (fun (c0 : ¬ (nI (sL S)) ≤ (nI c)) => ?_)
    · show tkDn tm_189 (98, [some (.inr (.inr (6, 0, 0))), some (.inl (nI c))], [], (I, J, R)) _
      refine dn_run 1 (show tkDn tm_189 (99, [some (.inr (.inr (6, 0, 0))), some (.inl (nI c))], [.inl 1], (I, J, R)) _ from ?_)
      refine dn_ret0 rfl rfl rfl rfl ?_
      rw [← (show fbF S T 0 c = -9 from rfl).symm.trans h] at hQ
      exact hQ
    · exact absurd (nI_le (by omega) (by omega)) c0
  | succ n ih =>
    intro c hc h
    show tkDn tm_189 (38, [some (.inr (.inr (6, 0, 0))), some (.inl (nI c))], [], (I, J, R)) _
    refine dn_run 3 (show tkDn tm_189 (43, [some (.inr (.inr (6, 0, 0))), some (.inl (nI c))], [.inl (I 6 0 0 1), .inl (nI c)], (I, J, R)) _ from ?_)
    rw [hL]
    show tkDn tm_189 (43, [some (.inr (.inr (6, 0, 0))), some (.inl (nI c))], [.inl (nI (sL S)), .inl (nI c)], (I, J, R)) _
    refine dn_if rfl rfl rfl (fun (c0 : (nI (sL S)) ≤ (nI c)) => ?_) (fun (c0 : ¬ (nI (sL S)) ≤ (nI c)) => ?_)
    · exact absurd c0 (nI_ge (by omega) (by omega))
    · show tkDn tm_189 (46, [some (.inr (.inr (6, 0, 0))), some (.inl (nI c))], [], (I, J, R)) _
      have hl : c < sL S := by omega
      have hf := w.fM hl
      have he_ := w.eM hl
      have e4 := hP.fr w hl
      have e5 := hP.en w hl
      have e6 := hP.lo w hl
      have e7 := hP.hi w hl
      refine dn_run 23 (show (vp_in (nI c) 60) ∧ (vp_in (I 6 0 5 ((nI c).toNatClampNeg)) 16) ∧ (vp_in (nI c) 60) ∧ (vp_in (I 6 0 4 ((nI c).toNatClampNeg)) 16) ∧ (vp_in (nI c) 60) ∧ (vp_in (nI c) 60) ∧ tkDn tm_189 (81, [some (.inr (.inr (6, 0, 0))), some (.inl (nI c))], [.inl (I 6 0 7 ((nI c).toNatClampNeg)), .inl (I 6 0 6 ((nI c).toNatClampNeg)), .inl ((I 6 0 33 ((I 6 0 5 ((nI c).toNatClampNeg)).toNatClampNeg)) - (I 6 0 33 ((I 6 0 4 ((nI c).toNatClampNeg)).toNatClampNeg)))], (I, J, R)) _ from ⟨vp_in_nI (by omega) (by omega), by rw [e5]; exact vp_in_nI (by omega) (by omega), vp_in_nI (by omega) (by omega), by rw [e4]; exact vp_in_nI (by omega) (by omega), vp_in_nI (by omega) (by omega), vp_in_nI (by omega) (by omega), ?_⟩)
      rw [e4, e5, e6, e7, nI_clamp (show se S c < 2 ^ 31 by omega), nI_clamp (show sf S c < 2 ^ 31 by omega), hT (se S c) (by omega), hT (sf S c) (by omega)]
      show tkDn tm_189 (81, [some (.inr (.inr (6, 0, 0))), some (.inl (nI c))], [.inl (shi S c), .inl (slo S c), .inl (T (se S c) - T (sf S c))], (I, J, R)) _
      refine dn_call rfl rfl rfl rfl rfl (sm_in ?_)
      show tkDn tm_189 (84, [some (.inr (.inr (6, 0, 0))), some (.inl (nI c))], [.inl (if slo S c ≤ T (se S c) - T (sf S c) ∧ T (se S c) - T (sf S c) ≤ shi S c then 1 else 0)], (I, J, R)) _
      refine dn_if rfl rfl rfl (fun (c1 : ¬ (if slo S c ≤ T (se S c) - T (sf S c) ∧ T (se S c) - T (sf S c) ≤ shi S c then 1 else 0) = 0) => ?_) (fun (c1 : (if slo S c ≤ T (se S c) - T (sf S c) ∧ T (se S c) - T (sf S c) ≤ shi S c then 1 else 0) = 0) => ?_)
      · show tkDn tm_189 (92, [some (.inr (.inr (6, 0, 0))), some (.inl (nI c))], [], (I, J, R)) _
        have c1 := Classical.byContradiction fun z => c1 (if_neg z)
        refine dn_run 2 (show tkDn tm_189 (38, [some (.inr (.inr (6, 0, 0))), some (.inl ((nI c) + 1))], [], (I, J, R)) _ from ?_)
        rw [nI_1]
        exact ih (c + 1) (by omega) ((show fbF S T (n + 1) c = fbF S T n (c + 1) from if_neg (fun q => q.elim (fun q => absurd q (Int32.not_lt.mpr c1.1)) (fun q => absurd q (Int32.not_lt.mpr c1.2)))).symm.trans h)
      · show tkDn tm_189 (87, [some (.inr (.inr (6, 0, 0))), some (.inl (nI c))], [], (I, J, R)) _
        have hz : fbF S T (n + 1) c = nI c := if_pos (Classical.byContradiction fun q => absurd (c1.symm.trans (if_pos ⟨Int32.not_lt.mp (fun z => q (Or.inl z)), Int32.not_lt.mp (fun z => q (Or.inr z))⟩)) (by decide))
        rw [← hz.symm.trans h, if_neg (fun q => absurd (show nI c < 0 by rw [q]; decide) (nI_pos (by omega)))] at hQ
        refine dn_run 3 (show tkDn tm_189 (91, [some (.inr (.inr (6, 0, 0))), some (.inl (nI c))], [.inl ((-20) - (nI c))], (I, J, R)) _ from ?_)
        refine dn_ret0 rfl rfl rfl rfl ?_
        exact hQ
set_option maxRecDepth 8000 in
theorem sm_ck1 {I : tkI} {J : tkJ} {R : Nat → Nat} {Q : tkQ} {T : Nat → Int32} (hT : ∀ j, j < 16 → I 6 0 33 j = T j) (hO : TOk T) {S : tkS} (hP : NetP (I 6 0) S) (w : WF S) (hQ : Q (some (.inl (ckF S T))) (I, J, R)) : ∀ n c, c + n = sM S → ncF T c = 0 → tkDn tm_189 (12, [some (.inr (.inr (6, 0, 0))), some (.inl (nI c))], [], (I, J, R)) Q := by
  have hM16 := w.1
  have hL60 := w.2.1
  have hG6 := w.2.2.1
  have hM := hP.m
  have hG := hP.g
  have hL := hP.l
  intro n
  induction n with
  | zero =>
    intro c hc h
    show tkDn tm_189 (12, [some (.inr (.inr (6, 0, 0))), some (.inl (nI c))], [], (I, J, R)) _
    refine dn_run 3 (show tkDn tm_189 (17, [some (.inr (.inr (6, 0, 0))), some (.inl (nI c))], [.inl (I 6 0 0 0), .inl (nI c)], (I, J, R)) _ from ?_)
    rw [hM]
    show tkDn tm_189 (17, [some (.inr (.inr (6, 0, 0))), some (.inl (nI c))], [.inl (nI (sM S)), .inl (nI c)], (I, J, R)) _
    refine dn_if rfl rfl rfl (fun (c0 : (nI (sM S)) ≤ (nI c)) => ?_) (fun (c0 : ¬ (nI (sM S)) ≤ (nI c)) => ?_)
    · show tkDn tm_189 (36, [some (.inr (.inr (6, 0, 0))), some (.inl (nI c))], [], (I, J, R)) _
      rw [show c = sM S by omega] at h
      unfold ckF at hQ
      rw [if_neg (by omega)] at hQ
      refine dn_run 2 (show tkDn tm_189 (38, [some (.inr (.inr (6, 0, 0))), some (.inl 0)], [], (I, J, R)) _ from ?_)
      exact sm_ck2 hT hO hP w hQ (sL S) 0 (Nat.zero_add _) rfl
    · exact absurd (nI_le (by omega) (by omega)) c0
  | succ n ih =>
    intro c hc h
    show tkDn tm_189 (12, [some (.inr (.inr (6, 0, 0))), some (.inl (nI c))], [], (I, J, R)) _
    refine dn_run 3 (show tkDn tm_189 (17, [some (.inr (.inr (6, 0, 0))), some (.inl (nI c))], [.inl (I 6 0 0 0), .inl (nI c)], (I, J, R)) _ from ?_)
    rw [hM]
    show tkDn tm_189 (17, [some (.inr (.inr (6, 0, 0))), some (.inl (nI c))], [.inl (nI (sM S)), .inl (nI c)], (I, J, R)) _
    refine dn_if rfl rfl rfl (fun (c0 : (nI (sM S)) ≤ (nI c)) => ?_) (fun (c0 : ¬ (nI (sM S)) ≤ (nI c)) => ?_)
    · exact absurd c0 (nI_ge (by omega) (by omega))
    · show tkDn tm_189 (20, [some (.inr (.inr (6, 0, 0))), some (.inl (nI c))], [], (I, J, R)) _
      refine dn_run 2 (show tkDn tm_189 (22, [some (.inr (.inr (6, 0, 0))), some (.inl (nI c))], [.inl (nI c), .inr (.inr (6, 0, 0))], (I, J, R)) _ from ?_)
      refine dn_call rfl rfl rfl rfl rfl (sm_hasCome hT hO (by omega) ?_)
      show tkDn tm_189 (25, [some (.inr (.inr (6, 0, 0))), some (.inl (nI c))], [.inl (if T c = -9 then 0 else 1)], (I, J, R)) _
      refine dn_if rfl rfl rfl (fun (c1 : ¬ (if T c = -9 then 0 else 1) = 0) => ?_) (fun (c1 : (if T c = -9 then 0 else 1) = 0) => ?_)
      · show tkDn tm_189 (30, [some (.inr (.inr (6, 0, 0))), some (.inl (nI c))], [], (I, J, R)) _
        refine dn_run 2 (show tkDn tm_189 (12, [some (.inr (.inr (6, 0, 0))), some (.inl ((nI c) + 1))], [], (I, J, R)) _ from ?_)
        rw [nI_1]
        exact ih (c + 1) (by omega) (by unfold ncF; rw [if_neg (fun q => c1 (ite01.mpr q))]; exact h)
      · show tkDn tm_189 (28, [some (.inr (.inr (6, 0, 0))), some (.inl (nI c))], [], (I, J, R)) _
        unfold ckF at hQ
        rw [if_pos (ncF_pos (ite01.mp c1) _ (by omega))] at hQ
        refine dn_run 1 (show tkDn tm_189 (29, [some (.inr (.inr (6, 0, 0))), some (.inl (nI c))], [.inl 0], (I, J, R)) _ from ?_)
        refine dn_ret0 rfl rfl rfl rfl ?_
        exact hQ
set_option maxRecDepth 8000 in
theorem sm_check {I : tkI} {J : tkJ} {R : Nat → Nat} {Q : tkQ} {T : Nat → Int32} (hT : ∀ j, j < 16 → I 6 0 33 j = T j) (hO : TOk T) {S : tkS} (hP : NetP (I 6 0) S) (w : WF S) {on t : Int32} (ht : I 6 0 0 31 = t) (hon : I 6 0 0 10 = on) (hb : on = 0 ∨ on = 1) (hQ : Q (some (.inl (if on = 1 then ckF S T else -13))) (I, J, R)) : tkDn tm_189 (0, [some (.inr (.inr (6, 0, 0))), none], [], (I, J, R)) Q := by
  refine dn_run 2 (show tkDn tm_189 (4, [some (.inr (.inr (6, 0, 0))), none], [.inl (I 6 0 0 10)], (I, J, R)) _ from ?_)
  rw [hon]
  show tkDn tm_189 (4, [some (.inr (.inr (6, 0, 0))), none], [.inl on], (I, J, R)) _
  refine dn_if rfl rfl rfl (fun (c1 : ¬ on = 0) => ?_) (fun (c1 : on = 0) => ?_)
  · show tkDn tm_189 (10, [some (.inr (.inr (6, 0, 0))), none], [], (I, J, R)) _
    rw [if_pos (hb.resolve_left c1)] at hQ
    refine dn_run 2 (show tkDn tm_189 (12, [some (.inr (.inr (6, 0, 0))), some (.inl 0)], [], (I, J, R)) _ from ?_)
    exact sm_ck1 hT hO hP w hQ (sM S) 0 (Nat.zero_add _) rfl
  · show tkDn tm_189 (7, [some (.inr (.inr (6, 0, 0))), none], [], (I, J, R)) _
    refine dn_run 1 (show tkDn tm_189 (9, [some (.inr (.inr (6, 0, 0))), none], [.inl (-13)], (I, J, R)) _ from ?_)
    refine dn_ret0 rfl rfl rfl rfl ?_
    rw [if_neg (fun q => absurd (c1.symm.trans q) (by decide))] at hQ; exact hQ
set_option maxRecDepth 8000 in
theorem sm_td {I : tkI} {J : tkJ} {R : Nat → Nat} {Q : tkQ} {T : Nat → Int32} (hT : ∀ j, j < 16 → I 6 0 33 j = T j) (hO : TOk T) {S : tkS} (hP : NetP (I 6 0) S) (w : WF S) {u on : Int32} (hon : I 6 0 0 10 = on) (hb : on = 0 ∨ on = 1) (hQ : Q (some (.inl (if on = 1 then nI (sM S - ncF T (sM S)) else 0))) (I, J, R)) : ∀ n c d, c + n = sM S → (on = 1 → d + ncF T c = c) → (on = 0 → d = 0) → tkDn tm_190 (55, [some (.inr (.inr (6, 0, 0))), some (.inl u), some (.inl (nI d)), some (.inl (nI c))], [], (I, J, R)) Q := by
  have hM16 := w.1
  have hL60 := w.2.1
  have hG6 := w.2.2.1
  have hM := hP.m
  have hG := hP.g
  have hL := hP.l
  intro n
  induction n with
  | zero =>
    intro c d hc h1 h0
    show tkDn tm_190 (55, [some (.inr (.inr (6, 0, 0))), some (.inl u), some (.inl (nI d)), some (.inl (nI c))], [], (I, J, R)) _
    refine dn_run 3 (show tkDn tm_190 (60, [some (.inr (.inr (6, 0, 0))), some (.inl u), some (.inl (nI d)), some (.inl (nI c))], [.inl (I 6 0 0 0), .inl (nI c)], (I, J, R)) _ from ?_)
    rw [hM]
    show tkDn tm_190 (60, [some (.inr (.inr (6, 0, 0))), some (.inl u), some (.inl (nI d)), some (.inl (nI c))], [.inl (nI (sM S)), .inl (nI c)], (I, J, R)) _
    refine dn_if rfl rfl rfl (fun (c0 : (nI (sM S)) ≤ (nI c)) => ?_) (fun (c0 : ¬ (nI (sM S)) ≤ (nI c)) => ?_)
    · show tkDn tm_190 (92, [some (.inr (.inr (6, 0, 0))), some (.inl u), some (.inl (nI d)), some (.inl (nI c))], [], (I, J, R)) _
      refine dn_run 1 (show tkDn tm_190 (93, [some (.inr (.inr (6, 0, 0))), some (.inl u), some (.inl (nI d)), some (.inl (nI c))], [.inl (nI d)], (I, J, R)) _ from ?_)
      rcases hb with hb | hb
      · rw [if_neg (fun q => absurd (hb.symm.trans q) (by decide))] at hQ
        rw [h0 hb]
        refine dn_ret0 rfl rfl rfl rfl ?_
        exact hQ
      · have h := h1 hb
        rw [if_pos hb, show sM S - ncF T (sM S) = d by rw [show c = sM S by omega] at h; omega] at hQ
        refine dn_ret0 rfl rfl rfl rfl ?_
        exact hQ
    · exact absurd (nI_le (by omega) (by omega)) c0
  | succ n ih =>
    intro c d hc h1 h0
    show tkDn tm_190 (55, [some (.inr (.inr (6, 0, 0))), some (.inl u), some (.inl (nI d)), some (.inl (nI c))], [], (I, J, R)) _
    refine dn_run 3 (show tkDn tm_190 (60, [some (.inr (.inr (6, 0, 0))), some (.inl u), some (.inl (nI d)), some (.inl (nI c))], [.inl (I 6 0 0 0), .inl (nI c)], (I, J, R)) _ from ?_)
    rw [hM]
    show tkDn tm_190 (60, [some (.inr (.inr (6, 0, 0))), some (.inl u), some (.inl (nI d)), some (.inl (nI c))], [.inl (nI (sM S)), .inl (nI c)], (I, J, R)) _
    refine dn_if rfl rfl rfl (fun (c0 : (nI (sM S)) ≤ (nI c)) => ?_) (fun (c0 : ¬ (nI (sM S)) ≤ (nI c)) => ?_)
    · exact absurd c0 (nI_ge (by omega) (by omega))
    · show tkDn tm_190 (63, [some (.inr (.inr (6, 0, 0))), some (.inl u), some (.inl (nI d)), some (.inl (nI c))], [], (I, J, R)) _
      refine dn_run 2 (show tkDn tm_190 (67, [some (.inr (.inr (6, 0, 0))), some (.inl u), some (.inl (nI d)), some (.inl (nI c))], [.inl (I 6 0 0 10)], (I, J, R)) _ from ?_)
      rw [hon]
      show tkDn tm_190 (67, [some (.inr (.inr (6, 0, 0))), some (.inl u), some (.inl (nI d)), some (.inl (nI c))], [.inl on], (I, J, R)) _
      refine dn_if rfl rfl rfl (fun (c1 : on = 0) => ?_) (fun (c1 : ¬ on = 0) => ?_)
      · show tkDn tm_190 (92, [some (.inr (.inr (6, 0, 0))), some (.inl u), some (.inl (nI d)), some (.inl (nI c))], [], (I, J, R)) _
        refine dn_run 1 (show tkDn tm_190 (93, [some (.inr (.inr (6, 0, 0))), some (.inl u), some (.inl (nI d)), some (.inl (nI c))], [.inl (nI d)], (I, J, R)) _ from ?_)
        rw [if_neg (fun q => absurd (c1.symm.trans q) (by decide))] at hQ
        rw [h0 c1]
        refine dn_ret0 rfl rfl rfl rfl ?_
        exact hQ
      · show tkDn tm_190 (70, [some (.inr (.inr (6, 0, 0))), some (.inl u), some (.inl (nI d)), some (.inl (nI c))], [], (I, J, R)) _
        have on1 := hb.resolve_left c1
        have h := h1 on1
        refine dn_run 3 (show tkDn tm_190 (73, [some (.inr (.inr (6, 0, 0))), some (.inl u), some (.inl (nI d)), some (.inl (nI c))], [.inl (nI c), .inr (.inr (6, 0, 0)), .inl (nI d)], (I, J, R)) _ from ?_)
        refine dn_call rfl rfl rfl rfl rfl (sm_hasCome hT hO (by omega) ?_)
        show tkDn tm_190 (76, [some (.inr (.inr (6, 0, 0))), some (.inl u), some (.inl (nI d)), some (.inl (nI c))], [.inl (if T c = -9 then 0 else 1), .inl (nI d)], (I, J, R)) _
        refine dn_if rfl rfl rfl (fun (c2 : (if T c = -9 then 0 else 1) = 0) => ?_) (fun (c2 : ¬ (if T c = -9 then 0 else 1) = 0) => ?_)
        · show tkDn tm_190 (83, [some (.inr (.inr (6, 0, 0))), some (.inl u), some (.inl (nI d)), some (.inl (nI c))], [.inl (nI d)], (I, J, R)) _
          refine dn_run 5 (show tkDn tm_190 (55, [some (.inr (.inr (6, 0, 0))), some (.inl u), some (.inl ((nI d) + 0)), some (.inl ((nI c) + 1))], [], (I, J, R)) _ from ?_)
          rw [nI_1, show nI d + 0 = nI d from Int32.add_zero _]
          exact ih (c + 1) d (by omega) (fun _ => by unfold ncF; rw [if_pos (ite01.mp c2)]; omega) (fun q => absurd (on1.symm.trans q) (by decide))
        · show tkDn tm_190 (79, [some (.inr (.inr (6, 0, 0))), some (.inl u), some (.inl (nI d)), some (.inl (nI c))], [.inl (nI d)], (I, J, R)) _
          refine dn_run 6 (show tkDn tm_190 (55, [some (.inr (.inr (6, 0, 0))), some (.inl u), some (.inl ((nI d) + 1)), some (.inl ((nI c) + 1))], [], (I, J, R)) _ from ?_)
          rw [nI_1, nI_1]
          exact ih (c + 1) (d + 1) (by omega) (fun _ => by unfold ncF; rw [if_neg (fun q => c2 (ite01.mpr q))]; omega) (fun q => absurd (on1.symm.trans q) (by decide))
def tdF (S : tkS) (T : Nat → Int32) (on : Int32) (z : Nat) (u : Int32) : Int32 := if u = 0 then nI (sM S) else if u = 1 then nI (sL S) else if u = 2 then nI (sG S) else if u = 3 then (if on = 1 then nI (sM S - ncF T (sM S)) else 0) else if u = 4 then nI z else -12
set_option maxRecDepth 8000 in
theorem sm_told {I : tkI} {J : tkJ} {R : Nat → Nat} {Q : tkQ} {T : Nat → Int32} (hT : ∀ j, j < 16 → I 6 0 33 j = T j) (hO : TOk T) {S : tkS} (hP : NetP (I 6 0) S) (w : WF S) {on u : Int32} {z : Nat} (hon : I 6 0 0 10 = on) (hb : on = 0 ∨ on = 1) (hz : I 6 0 0 13 = nI z) (hQ : Q (some (.inl (tdF S T on z u))) (I, J, R)) : tkDn tm_190 (0, [some (.inr (.inr (6, 0, 0))), some (.inl u), none, none], [], (I, J, R)) Q := by
  have hM16 := w.1
  have hL60 := w.2.1
  have hG6 := w.2.2.1
  have hM := hP.m
  have hG := hP.g
  have hL := hP.l
  unfold tdF at hQ
  refine dn_run 1 (show tkDn tm_190 (1, [some (.inr (.inr (6, 0, 0))), some (.inl u), none, none], [.inl u], (I, J, R)) _ from ?_)
  by_cases k0 : u = 0
  · subst k0
    refine dn_sw (t := 36) rfl (by decide) (by decide) ?_
    show tkDn tm_190 (36, [some (.inr (.inr (6, 0, 0))), some (.inl 0), none, none], [], (I, J, R)) _
    rw [if_pos rfl] at hQ
    refine dn_run 2 (show tkDn tm_190 (40, [some (.inr (.inr (6, 0, 0))), some (.inl 0), none, none], [.inl (I 6 0 0 0)], (I, J, R)) _ from ?_)
    rw [hM]
    refine dn_ret0 rfl rfl rfl rfl ?_
    exact hQ
  by_cases k1 : u = 1
  · subst k1
    refine dn_sw (t := 41) rfl (by decide) (by decide) ?_
    show tkDn tm_190 (41, [some (.inr (.inr (6, 0, 0))), some (.inl 1), none, none], [], (I, J, R)) _
    rw [if_neg (by decide)] at hQ
    rw [if_pos rfl] at hQ
    refine dn_run 2 (show tkDn tm_190 (45, [some (.inr (.inr (6, 0, 0))), some (.inl 1), none, none], [.inl (I 6 0 0 1)], (I, J, R)) _ from ?_)
    rw [hL]
    refine dn_ret0 rfl rfl rfl rfl ?_
    exact hQ
  by_cases k2 : u = 2
  · subst k2
    refine dn_sw (t := 46) rfl (by decide) (by decide) ?_
    show tkDn tm_190 (46, [some (.inr (.inr (6, 0, 0))), some (.inl 2), none, none], [], (I, J, R)) _
    rw [if_neg (by decide)] at hQ
    rw [if_neg (by decide)] at hQ
    rw [if_pos rfl] at hQ
    refine dn_run 2 (show tkDn tm_190 (50, [some (.inr (.inr (6, 0, 0))), some (.inl 2), none, none], [.inl (I 6 0 0 2)], (I, J, R)) _ from ?_)
    rw [hG]
    refine dn_ret0 rfl rfl rfl rfl ?_
    exact hQ
  by_cases k3 : u = 3
  · subst k3
    refine dn_sw (t := 51) rfl (by decide) (by decide) ?_
    show tkDn tm_190 (51, [some (.inr (.inr (6, 0, 0))), some (.inl 3), none, none], [], (I, J, R)) _
    rw [if_neg (by decide)] at hQ
    rw [if_neg (by decide)] at hQ
    rw [if_neg (by decide)] at hQ
    rw [if_pos rfl] at hQ
    refine dn_run 4 (show tkDn tm_190 (55, [some (.inr (.inr (6, 0, 0))), some (.inl 3), some (.inl 0), some (.inl 0)], [], (I, J, R)) _ from ?_)
    exact sm_td hT hO hP w hon hb hQ (sM S) 0 0 (Nat.zero_add _) (fun _ => rfl) (fun _ => rfl)
  by_cases k4 : u = 4
  · subst k4
    refine dn_sw (t := 94) rfl (by decide) (by decide) ?_
    show tkDn tm_190 (94, [some (.inr (.inr (6, 0, 0))), some (.inl 4), none, none], [], (I, J, R)) _
    rw [if_neg (by decide)] at hQ
    rw [if_neg (by decide)] at hQ
    rw [if_neg (by decide)] at hQ
    rw [if_neg (by decide)] at hQ
    rw [if_pos rfl] at hQ
    refine dn_run 2 (show tkDn tm_190 (98, [some (.inr (.inr (6, 0, 0))), some (.inl 4), none, none], [.inl (I 6 0 0 13)], (I, J, R)) _ from ?_)
    rw [hz]
    refine dn_ret0 rfl rfl rfl rfl ?_
    exact hQ
  refine dn_sw (t := 99) rfl (by decide) (by rw [sw_out (by have := lv_neT k0 (show (0 : Int32).toInt = 0 by decide); have := lv_neT k1 (show (1 : Int32).toInt = 1 by decide); have := lv_neT k2 (show (2 : Int32).toInt = 2 by decide); have := lv_neT k3 (show (3 : Int32).toInt = 3 by decide); have := lv_neT k4 (show (4 : Int32).toInt = 4 by decide); omega)]; rfl) ?_
  show tkDn tm_190 (99, [some (.inr (.inr (6, 0, 0))), some (.inl u), none, none], [], (I, J, R)) _
  refine dn_run 1 (show tkDn tm_190 (101, [some (.inr (.inr (6, 0, 0))), some (.inl u), none, none], [.inl (-12)], (I, J, R)) _ from ?_)
  refine dn_ret0 rfl rfl rfl rfl ?_
  rw [if_neg k0, if_neg k1, if_neg k2, if_neg k3, if_neg k4] at hQ
  exact hQ
