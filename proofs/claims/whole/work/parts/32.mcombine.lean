/-! the reference: combine -/
set_option maxRecDepth 8000 in
theorem sm_cb_b {I : tkI} {J : tkJ} {R : Nat → Nat} {Q : tkQ} {S : tkS} (hP : NetP (I 6 0) S) (w : WF S) {e v : tkD} {N : Nat → Nat → Int64} (he : RowP 16 (N 28) e) (hv : WRow (N 29) v) {a g : Nat} {r : Nat → Int64} (ha : a < sM S) (hg : g < sG S) (hK : ∀ o, tkDn tm_167 (89, [some (.inr (.inr (6, 0, 0))), some (.inl (nI a)), some (.inl (nI g)), some (.inr (.inl (lwF e v a g (sM S)))), none, some (.inl (nI (sM S))), o, none], [], (I, tk_so J 6 0 (tk_u1 N 25 r), R)) Q) : ∀ m c o, c + m = sM S → tkDn tm_167 (31, [some (.inr (.inr (6, 0, 0))), some (.inl (nI a)), some (.inl (nI g)), some (.inr (.inl (lwF e v a g c))), none, some (.inl (nI c)), o, none], [], (I, tk_so J 6 0 (tk_u1 N 25 r), R)) Q := by
  have hM16 := w.1
  have hG6 := w.2.2.1
  have hM := hP.m
  have hG := hP.g
  intro m
  induction m with
  | zero =>
    intro c o hc
    have hc : c = sM S := by omega
    subst hc
    show tkDn tm_167 (31, [some (.inr (.inr (6, 0, 0))), some (.inl (nI a)), some (.inl (nI g)), some (.inr (.inl (lwF e v a g (sM S)))), none, some (.inl (nI (sM S))), o, none], [], (I, tk_so J 6 0 (tk_u1 N 25 r), R)) _
    refine dn_run 3 (show tkDn tm_167 (37, [some (.inr (.inr (6, 0, 0))), some (.inl (nI a)), some (.inl (nI g)), some (.inr (.inl (lwF e v a g (sM S)))), none, some (.inl (nI (sM S))), o, none], [.inl (I 6 0 0 0), .inl (nI (sM S))], (I, tk_so J 6 0 (tk_u1 N 25 r), R)) _ from ?_)
    rw [hM]
    refine dn_if rfl rfl rfl (fun (q : (nI (sM S)) ≤ (nI (sM S))) => ?_) (fun (q : ¬ (nI (sM S)) ≤ (nI (sM S))) => ?_)
    · exact hK _
    · exact absurd (nI_le (by omega) (by omega)) q
  | succ m ih =>
    intro c o hc
    show tkDn tm_167 (31, [some (.inr (.inr (6, 0, 0))), some (.inl (nI a)), some (.inl (nI g)), some (.inr (.inl (lwF e v a g c))), none, some (.inl (nI c)), o, none], [], (I, tk_so J 6 0 (tk_u1 N 25 r), R)) _
    refine dn_run 3 (show tkDn tm_167 (37, [some (.inr (.inr (6, 0, 0))), some (.inl (nI a)), some (.inl (nI g)), some (.inr (.inl (lwF e v a g c))), none, some (.inl (nI c)), o, none], [.inl (I 6 0 0 0), .inl (nI c)], (I, tk_so J 6 0 (tk_u1 N 25 r), R)) _ from ?_)
    rw [hM]
    refine dn_if rfl rfl rfl (fun (q : (nI (sM S)) ≤ (nI c)) => ?_) (fun (q : ¬ (nI (sM S)) ≤ (nI c)) => ?_)
    · exact absurd q (nI_ge (by omega) (by omega))
    · show tkDn tm_167 (40, [some (.inr (.inr (6, 0, 0))), some (.inl (nI a)), some (.inl (nI g)), some (.inr (.inl (lwF e v a g c))), none, some (.inl (nI c)), o, none], [], (I, tk_so J 6 0 (tk_u1 N 25 r), R)) _
      refine dn_run 16 (show (vp_in ((16 * (nI a)) + (nI c)) 256) ∧ (vp_in ((6 * (nI c)) + (nI g)) 96) ∧ tkDn tm_167 (64, [some (.inr (.inr (6, 0, 0))), some (.inl (nI a)), some (.inl (nI g)), some (.inr (.inl (lwF e v a g c))), none, some (.inl (nI c)), o, none], [.inr (.inl (N 29 (((6 * (nI c)) + (nI g)).toNatClampNeg))), .inr (.inl (N 28 (((16 * (nI a)) + (nI c)).toNatClampNeg)))], (I, tk_so J 6 0 (tk_u1 N 25 r), R)) _ from ⟨by rw [ix16']; exact vp_in_nI (by omega) (by omega), by rw [ix6']; exact vp_in_nI (by omega) (by omega), ?_⟩)
      rw [ix16', ix6', he.at (by omega) (by omega) (by omega), hv.at (by omega) (by omega)]
      show tkDn tm_167 (64, [some (.inr (.inr (6, 0, 0))), some (.inl (nI a)), some (.inl (nI g)), some (.inr (.inl (lwF e v a g c))), none, some (.inl (nI c)), o, none], [.inr (.inl (v c g)), .inr (.inl (e a c))], (I, tk_so J 6 0 (tk_u1 N 25 r), R)) _
      refine dn_call rfl rfl rfl rfl rfl (sm_sum ?_)
      show tkDn tm_167 (67, [some (.inr (.inr (6, 0, 0))), some (.inl (nI a)), some (.inl (nI g)), some (.inr (.inl (lwF e v a g c))), none, some (.inl (nI c)), o, none], [.inr (.inl (sumF (e a c) (v c g)))], (I, tk_so J 6 0 (tk_u1 N 25 r), R)) _
      refine dn_run 4 (show tkDn tm_167 (73, [some (.inr (.inr (6, 0, 0))), some (.inl (nI a)), some (.inl (nI g)), some (.inr (.inl (lwF e v a g c))), none, some (.inl (nI c)), some (.inr (.inl (sumF (e a c) (v c g)))), none], [.inl (lg_cmp (sumF (e a c) (v c g)) (lwF e v a g c))], (I, tk_so J 6 0 (tk_u1 N 25 r), R)) _ from ?_)
      refine dn_if rfl rfl rfl (fun (c2 : 0 ≤ (lg_cmp (sumF (e a c) (v c g)) (lwF e v a g c))) => ?_) (fun (c2 : ¬ 0 ≤ (lg_cmp (sumF (e a c) (v c g)) (lwF e v a g c))) => ?_)
      · show tkDn tm_167 (81, [some (.inr (.inr (6, 0, 0))), some (.inl (nI a)), some (.inl (nI g)), some (.inr (.inl (lwF e v a g c))), none, some (.inl (nI c)), some (.inr (.inl (sumF (e a c) (v c g)))), none], [], (I, tk_so J 6 0 (tk_u1 N 25 r), R)) _
        refine dn_run 4 (show tkDn tm_167 (31, [some (.inr (.inr (6, 0, 0))), some (.inl (nI a)), some (.inl (nI g)), some (.inr (.inl (lwF e v a g c))), none, some (.inl ((nI c) + 1)), some (.inr (.inl (sumF (e a c) (v c g)))), none], [], (I, tk_so J 6 0 (tk_u1 N 25 r), R)) _ from ?_)
        rw [nI_1]
        have e1 : lwF e v a g (c + 1) = lwF e v a g c := by rw [← lwF_sum, if_neg (Int64.not_lt.mpr ((lg_cmp_ge _ _).mp c2))]
        rw [← e1]
        exact ih (c + 1) _ (by omega)
      · show tkDn tm_167 (76, [some (.inr (.inr (6, 0, 0))), some (.inl (nI a)), some (.inl (nI g)), some (.inr (.inl (lwF e v a g c))), none, some (.inl (nI c)), some (.inr (.inl (sumF (e a c) (v c g)))), none], [], (I, tk_so J 6 0 (tk_u1 N 25 r), R)) _
        refine dn_run 5 (show tkDn tm_167 (31, [some (.inr (.inr (6, 0, 0))), some (.inl (nI a)), some (.inl (nI g)), some (.inr (.inl (sumF (e a c) (v c g)))), none, some (.inl ((nI c) + 1)), some (.inr (.inl (sumF (e a c) (v c g)))), none], [], (I, tk_so J 6 0 (tk_u1 N 25 r), R)) _ from ?_)
        rw [nI_1]
        have e1 : lwF e v a g (c + 1) = sumF (e a c) (v c g) := by rw [← lwF_sum, if_pos (Int64.not_le.mp (fun t => c2 ((lg_cmp_ge _ _).mpr t)))]
        rw [← e1]
        exact ih (c + 1) _ (by omega)
set_option maxRecDepth 8000 in
theorem sm_cb_g {I : tkI} {J : tkJ} {R : Nat → Nat} {Q : tkQ} {S : tkS} (hP : NetP (I 6 0) S) (w : WF S) {e v : tkD} {N : Nat → Nat → Int64} (he : RowP 16 (N 28) e) (hv : WRow (N 29) v) {a : Nat} (ha : a < sM S) (hK : ∀ r o3 o5 o6, WRow r (caM e v (sM S) (sG S) a (sG S)) → tkDn tm_167 (107, [some (.inr (.inr (6, 0, 0))), some (.inl (nI a)), some (.inl (nI (sG S))), o3, none, o5, o6, none], [], (I, tk_so J 6 0 (tk_u1 N 25 r), R)) Q) : ∀ m g r o3 o5 o6, g + m = sG S → WRow r (caM e v (sM S) (sG S) a g) → tkDn tm_167 (16, [some (.inr (.inr (6, 0, 0))), some (.inl (nI a)), some (.inl (nI g)), o3, none, o5, o6, none], [], (I, tk_so J 6 0 (tk_u1 N 25 r), R)) Q := by
  have hM16 := w.1
  have hG6 := w.2.2.1
  have hM := hP.m
  have hG := hP.g
  intro m
  induction m with
  | zero =>
    intro g r o3 o5 o6 hg hr
    have hg : g = sG S := by omega
    subst hg
    show tkDn tm_167 (16, [some (.inr (.inr (6, 0, 0))), some (.inl (nI a)), some (.inl (nI (sG S))), o3, none, o5, o6, none], [], (I, tk_so J 6 0 (tk_u1 N 25 r), R)) _
    refine dn_run 3 (show tkDn tm_167 (21, [some (.inr (.inr (6, 0, 0))), some (.inl (nI a)), some (.inl (nI (sG S))), o3, none, o5, o6, none], [.inl (I 6 0 0 2), .inl (nI (sG S))], (I, tk_so J 6 0 (tk_u1 N 25 r), R)) _ from ?_)
    rw [hG]
    refine dn_if rfl rfl rfl (fun (q : (nI (sG S)) ≤ (nI (sG S))) => ?_) (fun (q : ¬ (nI (sG S)) ≤ (nI (sG S))) => ?_)
    · exact hK r _ _ _ hr
    · exact absurd (nI_le (by omega) (by omega)) q
  | succ m ih =>
    intro g r o3 o5 o6 hg hr
    show tkDn tm_167 (16, [some (.inr (.inr (6, 0, 0))), some (.inl (nI a)), some (.inl (nI g)), o3, none, o5, o6, none], [], (I, tk_so J 6 0 (tk_u1 N 25 r), R)) _
    refine dn_run 3 (show tkDn tm_167 (21, [some (.inr (.inr (6, 0, 0))), some (.inl (nI a)), some (.inl (nI g)), o3, none, o5, o6, none], [.inl (I 6 0 0 2), .inl (nI g)], (I, tk_so J 6 0 (tk_u1 N 25 r), R)) _ from ?_)
    rw [hG]
    refine dn_if rfl rfl rfl (fun (q : (nI (sG S)) ≤ (nI g)) => ?_) (fun (q : ¬ (nI (sG S)) ≤ (nI g)) => ?_)
    · exact absurd q (nI_ge (by omega) (by omega))
    · show tkDn tm_167 (24, [some (.inr (.inr (6, 0, 0))), some (.inl (nI a)), some (.inl (nI g)), o3, none, o5, o6, none], [], (I, tk_so J 6 0 (tk_u1 N 25 r), R)) _
      refine dn_run 4 (show tkDn tm_167 (31, [some (.inr (.inr (6, 0, 0))), some (.inl (nI a)), some (.inl (nI g)), some (.inr (.inl 4611686018427387904)), none, some (.inl 0), o6, none], [], (I, tk_so J 6 0 (tk_u1 N 25 r), R)) _ from ?_)
      refine sm_cb_b hP w he hv ha (by omega) (fun o => ?_) (sM S) 0 _ (Nat.zero_add _)
      show tkDn tm_167 (89, [some (.inr (.inr (6, 0, 0))), some (.inl (nI a)), some (.inl (nI g)), some (.inr (.inl (lwF e v a g (sM S)))), none, some (.inl (nI (sM S))), o, none], [], (I, tk_so J 6 0 (tk_u1 N 25 r), R)) _
      refine dn_run 11 (show (vp_in ((6 * (nI a)) + (nI g)) 96) ∧ tkDn tm_167 (16, [some (.inr (.inr (6, 0, 0))), some (.inl (nI a)), some (.inl ((nI g) + 1)), some (.inr (.inl (lwF e v a g (sM S)))), none, some (.inl (nI (sM S))), o, none], [], (I, tk_so (tk_so J 6 0 (tk_u1 N 25 r)) 6 0 (tk_u2 (tk_u1 N 25 r) 25 (((6 * (nI a)) + (nI g)).toNatClampNeg) (lwF e v a g (sM S))), R)) _ from ⟨by rw [ix6']; exact vp_in_nI (by omega) (by omega), ?_⟩)
      rw [tk_so_so]
      rw [tk_u2_u1, ix6', nI_clamp (show 6 * a + g < 2 ^ 31 by omega), nI_1]
      exact ih (g + 1) _ _ _ _ (by omega) (by rw [← caM_s ha (by omega)]; exact hr.put (by omega))
set_option maxRecDepth 8000 in
theorem sm_cb_a {I : tkI} {J : tkJ} {R : Nat → Nat} {Q : tkQ} {S : tkS} (hP : NetP (I 6 0) S) (w : WF S) {e v : tkD} {N : Nat → Nat → Int64} (he : RowP 16 (N 28) e) (hv : WRow (N 29) v) (hQ : ∀ r, WRow r (caM e v (sM S) (sG S) (sM S) 0) → Q none (I, tk_so J 6 0 (tk_u1 N 25 r), R)) : ∀ m a r o2 o3 o5 o6, a + m = sM S → WRow r (caM e v (sM S) (sG S) a 0) → tkDn tm_167 (6, [some (.inr (.inr (6, 0, 0))), some (.inl (nI a)), o2, o3, none, o5, o6, none], [], (I, tk_so J 6 0 (tk_u1 N 25 r), R)) Q := by
  have hM16 := w.1
  have hG6 := w.2.2.1
  have hM := hP.m
  have hG := hP.g
  intro m
  induction m with
  | zero =>
    intro a r o2 o3 o5 o6 ha hr
    show tkDn tm_167 (6, [some (.inr (.inr (6, 0, 0))), some (.inl (nI a)), o2, o3, none, o5, o6, none], [], (I, tk_so J 6 0 (tk_u1 N 25 r), R)) _
    refine dn_run 3 (show tkDn tm_167 (11, [some (.inr (.inr (6, 0, 0))), some (.inl (nI a)), o2, o3, none, o5, o6, none], [.inl (I 6 0 0 0), .inl (nI a)], (I, tk_so J 6 0 (tk_u1 N 25 r), R)) _ from ?_)
    rw [hM]
    refine dn_if rfl rfl rfl (fun (q : (nI (sM S)) ≤ (nI a)) => ?_) (fun (q : ¬ (nI (sM S)) ≤ (nI a)) => ?_)
    · show tkDn tm_167 (113, [some (.inr (.inr (6, 0, 0))), some (.inl (nI a)), o2, o3, none, o5, o6, none], [], (I, tk_so J 6 0 (tk_u1 N 25 r), R)) _
      refine dn_ret0 rfl rfl rfl rfl ?_
      rw [show a = sM S by omega] at hr
      exact hQ r hr
    · exact absurd (nI_le (by omega) (by omega)) q
  | succ m ih =>
    intro a r o2 o3 o5 o6 ha hr
    show tkDn tm_167 (6, [some (.inr (.inr (6, 0, 0))), some (.inl (nI a)), o2, o3, none, o5, o6, none], [], (I, tk_so J 6 0 (tk_u1 N 25 r), R)) _
    refine dn_run 3 (show tkDn tm_167 (11, [some (.inr (.inr (6, 0, 0))), some (.inl (nI a)), o2, o3, none, o5, o6, none], [.inl (I 6 0 0 0), .inl (nI a)], (I, tk_so J 6 0 (tk_u1 N 25 r), R)) _ from ?_)
    rw [hM]
    refine dn_if rfl rfl rfl (fun (q : (nI (sM S)) ≤ (nI a)) => ?_) (fun (q : ¬ (nI (sM S)) ≤ (nI a)) => ?_)
    · exact absurd q (nI_ge (by omega) (by omega))
    · show tkDn tm_167 (14, [some (.inr (.inr (6, 0, 0))), some (.inl (nI a)), o2, o3, none, o5, o6, none], [], (I, tk_so J 6 0 (tk_u1 N 25 r), R)) _
      refine dn_run 2 (show tkDn tm_167 (16, [some (.inr (.inr (6, 0, 0))), some (.inl (nI a)), some (.inl 0), o3, none, o5, o6, none], [], (I, tk_so J 6 0 (tk_u1 N 25 r), R)) _ from ?_)
      refine sm_cb_g hP w he hv (by omega) (fun r2 p3 p5 p6 hr2 => ?_) (sG S) 0 r _ _ _ (Nat.zero_add _) hr
      show tkDn tm_167 (107, [some (.inr (.inr (6, 0, 0))), some (.inl (nI a)), some (.inl (nI (sG S))), p3, none, p5, p6, none], [], (I, tk_so J 6 0 (tk_u1 N 25 r2), R)) _
      refine dn_run 2 (show tkDn tm_167 (6, [some (.inr (.inr (6, 0, 0))), some (.inl ((nI a) + 1)), some (.inl (nI (sG S))), p3, none, p5, p6, none], [], (I, tk_so J 6 0 (tk_u1 N 25 r2), R)) _ from ?_)
      rw [nI_1]
      exact ih (a + 1) r2 _ _ _ _ (by omega) (by rw [← caM_n]; exact hr2)
set_option maxRecDepth 8000 in
theorem sm_combine {I : tkI} {J : tkJ} {R : Nat → Nat} {Q : tkQ} {S : tkS} (hP : NetP (I 6 0) S) (w : WF S) {e v : tkD} {N : Nat → Nat → Int64} (he : RowP 16 (N 24) e) (hv : WRow (N 25) v) (hQ : ∀ N2, WRow (N2 25) (caM e v (sM S) (sG S) (sM S) 0) → (∀ s, s ≠ 25 → s ≠ 28 → s ≠ 29 → N2 s = N s) → Q none (I, tk_so J 6 0 N2, R)) : tkDn tm_167 (0, [some (.inr (.inr (6, 0, 0))), none, none, none, none, none, none, none], [], (I, tk_so J 6 0 N, R)) Q := by
  refine dn_run 1 (show tkDn tm_167 (1, [some (.inr (.inr (6, 0, 0))), none, none, none, none, none, none, none], [.inr (.inr (6, 0, 0))], (I, tk_so J 6 0 N, R)) _ from ?_)
  refine dn_call rfl rfl rfl rfl rfl (sm_see (fun N1 h28 h29 h1 => ?_))
  show tkDn tm_167 (4, [some (.inr (.inr (6, 0, 0))), none, none, none, none, none, none, none], [], (I, tk_so J 6 0 N1, R)) _
  refine dn_run 2 (show tkDn tm_167 (6, [some (.inr (.inr (6, 0, 0))), some (.inl 0), none, none, none, none, none, none], [], (I, tk_so J 6 0 N1, R)) _ from ?_)
  have key := sm_cb_a (J := J) (N := N1) (R := R) (Q := Q) (e := e) (v := v) hP w (he.cp h28) (hv.cp h29) (fun r hr => hQ _ (by rw [tk_u1_same]; exact hr) (fun s a1 a2 a3 => by rw [tk_u1_ne a1, h1 s a2 a3])) (sM S) 0 (N1 25) none none none none (Nat.zero_add _) (by rw [caM_0, h1 25 (by decide) (by decide)]; exact hv)
  rw [tk_u1_id] at key
  exact key
