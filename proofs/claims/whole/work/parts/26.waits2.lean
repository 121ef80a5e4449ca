/-! Waits: the steps of a round. J is written as tk_so J 4 0 N: N holds the rows of Waits -/
set_option maxRecDepth 8000 in
theorem sw_cwae_in {I : tkI} {J : tkJ} {R : Nat → Nat} {Q : tkQ} {b : Nat} {S : tkS} (hP : NetP (I 1 b) S) (w : WF S) {e v : tkD} {N : Nat → Nat → Int64} (he : RowP 16 (N 1) e) (hv : WRow (N 6) v) {a : Nat} (ha : a < sM S) (hK : ∀ r, WRow r (caM e v (sM S) (sG S) a (sG S)) → tkDn tm_89 (57, [some (.inr (.inr (4, 0, 0))), some (.inr (.inr (1, b, 0))), some (.inl (nI a)), some (.inl (nI (sG S)))], [], (I, tk_so J 4 0 (tk_u1 N 4 r), R)) Q) : ∀ m g r, g + m = sG S → WRow r (caM e v (sM S) (sG S) a g) → tkDn tm_89 (23, [some (.inr (.inr (4, 0, 0))), some (.inr (.inr (1, b, 0))), some (.inl (nI a)), some (.inl (nI g))], [], (I, tk_so J 4 0 (tk_u1 N 4 r), R)) Q := by
  have hM16 := w.1
  have hL60 := w.2.1
  have hG6 := w.2.2.1
  intro m
  induction m with
  | zero =>
    intro g r hg hr
    have hg : g = sG S := by omega
    subst hg
    show tkDn tm_89 (23, [some (.inr (.inr (4, 0, 0))), some (.inr (.inr (1, b, 0))), some (.inl (nI a)), some (.inl (nI (sG S)))], [], (I, tk_so J 4 0 (tk_u1 N 4 r), R)) _
    refine dn_run 2 (show tkDn tm_89 (25, [some (.inr (.inr (4, 0, 0))), some (.inr (.inr (1, b, 0))), some (.inl (nI a)), some (.inl (nI (sG S)))], [.inr (.inr (1, b, 0)), .inl (nI (sG S))], (I, tk_so J 4 0 (tk_u1 N 4 r), R)) _ from ?_)
    refine dn_call rfl rfl rfl rfl rfl (sN_giftCount hP ?_)
    show tkDn tm_89 (28, [some (.inr (.inr (4, 0, 0))), some (.inr (.inr (1, b, 0))), some (.inl (nI a)), some (.inl (nI (sG S)))], [.inl (nI (sG S)), .inl (nI (sG S))], (I, tk_so J 4 0 (tk_u1 N 4 r), R)) _
    refine dn_if rfl rfl rfl (fun (q : (nI (sG S)) ≤ (nI (sG S))) => ?_) (fun (q : ¬ (nI (sG S)) ≤ (nI (sG S))) => ?_)
    · show tkDn tm_89 (57, [some (.inr (.inr (4, 0, 0))), some (.inr (.inr (1, b, 0))), some (.inl (nI a)), some (.inl (nI (sG S)))], [], (I, tk_so J 4 0 (tk_u1 N 4 r), R)) _
      exact hK r hr
    · exact absurd (nI_le (by omega) (by omega)) q
  | succ m ih =>
    intro g r hg hr
    show tkDn tm_89 (23, [some (.inr (.inr (4, 0, 0))), some (.inr (.inr (1, b, 0))), some (.inl (nI a)), some (.inl (nI g))], [], (I, tk_so J 4 0 (tk_u1 N 4 r), R)) _
    refine dn_run 2 (show tkDn tm_89 (25, [some (.inr (.inr (4, 0, 0))), some (.inr (.inr (1, b, 0))), some (.inl (nI a)), some (.inl (nI g))], [.inr (.inr (1, b, 0)), .inl (nI g)], (I, tk_so J 4 0 (tk_u1 N 4 r), R)) _ from ?_)
    refine dn_call rfl rfl rfl rfl rfl (sN_giftCount hP ?_)
    show tkDn tm_89 (28, [some (.inr (.inr (4, 0, 0))), some (.inr (.inr (1, b, 0))), some (.inl (nI a)), some (.inl (nI g))], [.inl (nI (sG S)), .inl (nI g)], (I, tk_so J 4 0 (tk_u1 N 4 r), R)) _
    refine dn_if rfl rfl rfl (fun (q : (nI (sG S)) ≤ (nI g)) => ?_) (fun (q : ¬ (nI (sG S)) ≤ (nI g)) => ?_)
    · exact absurd q (nI_ge (by omega) (by omega))
    · show tkDn tm_89 (31, [some (.inr (.inr (4, 0, 0))), some (.inr (.inr (1, b, 0))), some (.inl (nI a)), some (.inl (nI g))], [], (I, tk_so J 4 0 (tk_u1 N 4 r), R)) _
      refine dn_run 4 (show tkDn tm_89 (37, [some (.inr (.inr (4, 0, 0))), some (.inr (.inr (1, b, 0))), some (.inl (nI a)), some (.inl (nI g))], [.inl (nI g), .inl (nI a), .inr (.inr (4, 0, 4))], (I, tk_so J 4 0 (tk_u1 N 4 r), R)) _ from ?_)
      refine dn_call rfl rfl rfl rfl rfl (sw_cell ?_)
      show tkDn tm_89 (40, [some (.inr (.inr (4, 0, 0))), some (.inr (.inr (1, b, 0))), some (.inl (nI a)), some (.inl (nI g))], [.inl (nI (6 * a + g)), .inr (.inr (4, 0, 4))], (I, tk_so J 4 0 (tk_u1 N 4 r), R)) _
      refine dn_run 2 (show tkDn tm_89 (42, [some (.inr (.inr (4, 0, 0))), some (.inr (.inr (1, b, 0))), some (.inl (nI a)), some (.inl (nI g))], [.inr (.inr (1, b, 0)), .inr (.inr (4, 0, 0)), .inl (nI (6 * a + g)), .inr (.inr (4, 0, 4))], (I, tk_so J 4 0 (tk_u1 N 4 r), R)) _ from ?_)
      refine dn_call rfl rfl rfl rfl rfl (sN_momentCount hP ?_)
      show tkDn tm_89 (45, [some (.inr (.inr (4, 0, 0))), some (.inr (.inr (1, b, 0))), some (.inl (nI a)), some (.inl (nI g))], [.inl (nI (sM S)), .inr (.inr (4, 0, 0)), .inl (nI (6 * a + g)), .inr (.inr (4, 0, 4))], (I, tk_so J 4 0 (tk_u1 N 4 r), R)) _
      refine dn_run 2 (show tkDn tm_89 (47, [some (.inr (.inr (4, 0, 0))), some (.inr (.inr (1, b, 0))), some (.inl (nI a)), some (.inl (nI g))], [.inl (nI g), .inl (nI a), .inl (nI (sM S)), .inr (.inr (4, 0, 0)), .inl (nI (6 * a + g)), .inr (.inr (4, 0, 4))], (I, tk_so J 4 0 (tk_u1 N 4 r), R)) _ from ?_)
      refine dn_call rfl rfl rfl rfl rfl (sw_leastWaitVia (e := e) (v := v) (by omega) (by omega) (by omega) he hv ?_)
      show tkDn tm_89 (50, [some (.inr (.inr (4, 0, 0))), some (.inr (.inr (1, b, 0))), some (.inl (nI a)), some (.inl (nI g))], [.inr (.inl (lwF e v a g (sM S))), .inl (nI (6 * a + g)), .inr (.inr (4, 0, 4))], (I, tk_so J 4 0 (tk_u1 N 4 r), R)) _
      refine dn_run 3 (show (vp_in (nI (6 * a + g)) 96) ∧ tkDn tm_89 (23, [some (.inr (.inr (4, 0, 0))), some (.inr (.inr (1, b, 0))), some (.inl (nI a)), some (.inl ((nI g) + 1))], [], (I, tk_so (tk_so J 4 0 (tk_u1 N 4 r)) 4 0 (tk_u2 (tk_u1 N 4 r) 4 ((nI (6 * a + g)).toNatClampNeg) (lwF e v a g (sM S))), R)) _ from ⟨vp_in_nI (by omega) (by omega), ?_⟩)
      rw [tk_so_so]
      rw [tk_u2_u1, nI_clamp (show 6 * a + g < 2 ^ 31 by omega), nI_1]
      exact ih (g + 1) _ (by omega) (by rw [← caM_s ha (by omega)]; exact hr.put (by omega))
set_option maxRecDepth 8000 in
theorem sw_cwae_out {I : tkI} {J : tkJ} {R : Nat → Nat} {Q : tkQ} {b : Nat} {S : tkS} (hP : NetP (I 1 b) S) (w : WF S) {e v : tkD} {N : Nat → Nat → Int64} (he : RowP 16 (N 1) e) (hv : WRow (N 6) v) (hQ : ∀ r, WRow r (caM e v (sM S) (sG S) (sM S) 0) → Q none (I, tk_so J 4 0 (tk_u1 N 4 r), R)) : ∀ m a r o, a + m = sM S → WRow r (caM e v (sM S) (sG S) a 0) → tkDn tm_89 (13, [some (.inr (.inr (4, 0, 0))), some (.inr (.inr (1, b, 0))), some (.inl (nI a)), o], [], (I, tk_so J 4 0 (tk_u1 N 4 r), R)) Q := by
  have hM16 := w.1
  have hL60 := w.2.1
  have hG6 := w.2.2.1
  intro m
  induction m with
  | zero =>
    intro a r o ha hr
    show tkDn tm_89 (13, [some (.inr (.inr (4, 0, 0))), some (.inr (.inr (1, b, 0))), some (.inl (nI a)), o], [], (I, tk_so J 4 0 (tk_u1 N 4 r), R)) _
    refine dn_run 2 (show tkDn tm_89 (15, [some (.inr (.inr (4, 0, 0))), some (.inr (.inr (1, b, 0))), some (.inl (nI a)), o], [.inr (.inr (1, b, 0)), .inl (nI a)], (I, tk_so J 4 0 (tk_u1 N 4 r), R)) _ from ?_)
    refine dn_call rfl rfl rfl rfl rfl (sN_momentCount hP ?_)
    show tkDn tm_89 (18, [some (.inr (.inr (4, 0, 0))), some (.inr (.inr (1, b, 0))), some (.inl (nI a)), o], [.inl (nI (sM S)), .inl (nI a)], (I, tk_so J 4 0 (tk_u1 N 4 r), R)) _
    refine dn_if rfl rfl rfl (fun (q : (nI (sM S)) ≤ (nI a)) => ?_) (fun (q : ¬ (nI (sM S)) ≤ (nI a)) => ?_)
    · show tkDn tm_89 (63, [some (.inr (.inr (4, 0, 0))), some (.inr (.inr (1, b, 0))), some (.inl (nI a)), o], [], (I, tk_so J 4 0 (tk_u1 N 4 r), R)) _
      refine dn_ret0 rfl rfl rfl rfl ?_
      rw [show a = sM S by omega] at hr
      exact hQ r hr
    · exact absurd (nI_le (by omega) (by omega)) q
  | succ m ih =>
    intro a r o ha hr
    show tkDn tm_89 (13, [some (.inr (.inr (4, 0, 0))), some (.inr (.inr (1, b, 0))), some (.inl (nI a)), o], [], (I, tk_so J 4 0 (tk_u1 N 4 r), R)) _
    refine dn_run 2 (show tkDn tm_89 (15, [some (.inr (.inr (4, 0, 0))), some (.inr (.inr (1, b, 0))), some (.inl (nI a)), o], [.inr (.inr (1, b, 0)), .inl (nI a)], (I, tk_so J 4 0 (tk_u1 N 4 r), R)) _ from ?_)
    refine dn_call rfl rfl rfl rfl rfl (sN_momentCount hP ?_)
    show tkDn tm_89 (18, [some (.inr (.inr (4, 0, 0))), some (.inr (.inr (1, b, 0))), some (.inl (nI a)), o], [.inl (nI (sM S)), .inl (nI a)], (I, tk_so J 4 0 (tk_u1 N 4 r), R)) _
    refine dn_if rfl rfl rfl (fun (q : (nI (sM S)) ≤ (nI a)) => ?_) (fun (q : ¬ (nI (sM S)) ≤ (nI a)) => ?_)
    · exact absurd q (nI_ge (by omega) (by omega))
    · show tkDn tm_89 (21, [some (.inr (.inr (4, 0, 0))), some (.inr (.inr (1, b, 0))), some (.inl (nI a)), o], [], (I, tk_so J 4 0 (tk_u1 N 4 r), R)) _
      refine dn_run 2 (show tkDn tm_89 (23, [some (.inr (.inr (4, 0, 0))), some (.inr (.inr (1, b, 0))), some (.inl (nI a)), some (.inl 0)], [], (I, tk_so J 4 0 (tk_u1 N 4 r), R)) _ from ?_)
      refine sw_cwae_in hP w he hv (by omega) (fun r2 hr2 => ?_) (sG S) 0 r (Nat.zero_add _) hr
      show tkDn tm_89 (57, [some (.inr (.inr (4, 0, 0))), some (.inr (.inr (1, b, 0))), some (.inl (nI a)), some (.inl (nI (sG S)))], [], (I, tk_so J 4 0 (tk_u1 N 4 r2), R)) _
      refine dn_run 2 (show tkDn tm_89 (13, [some (.inr (.inr (4, 0, 0))), some (.inr (.inr (1, b, 0))), some (.inl ((nI a) + 1)), some (.inl (nI (sG S)))], [], (I, tk_so J 4 0 (tk_u1 N 4 r2), R)) _ from ?_)
      rw [nI_1]
      exact ih (a + 1) r2 _ (by omega) (by rw [← caM_n]; exact hr2)
set_option maxRecDepth 8000 in
theorem sw_carryWaitsAlongEdges {I : tkI} {J : tkJ} {R : Nat → Nat} {Q : tkQ} {b : Nat} {S : tkS} (hP : NetP (I 1 b) S) (w : WF S) {e v : tkD} {N : Nat → Nat → Int64} (he : RowP 16 (N 1) e) (hv : WRow (N 4) v) (hQ : ∀ N2, WRow (N2 4) (caM e v (sM S) (sG S) (sM S) 0) → (∀ s, s ≠ 4 → s ≠ 6 → N2 s = N s) → Q none (I, tk_so J 4 0 N2, R)) : tkDn tm_89 (0, [some (.inr (.inr (4, 0, 0))), some (.inr (.inr (1, b, 0))), none, none], [], (I, tk_so J 4 0 N, R)) Q := by
  refine dn_run 4 (show tkDn tm_89 (8, [some (.inr (.inr (4, 0, 0))), some (.inr (.inr (1, b, 0))), none, none], [.inr (.inr (4, 0, 6)), .inr (.inr (4, 0, 4))], (I, tk_so J 4 0 N, R)) _ from ?_)
  refine dn_call rfl rfl rfl rfl rfl (sw_copy_4_6 (fun r hr => ?_))
  rw [tk_so_so, tk_so_same]
  rw [tk_so_same] at hr
  show tkDn tm_89 (11, [some (.inr (.inr (4, 0, 0))), some (.inr (.inr (1, b, 0))), none, none], [], (I, tk_so J 4 0 (tk_u1 N 6 r), R)) _
  refine dn_run 2 (show tkDn tm_89 (13, [some (.inr (.inr (4, 0, 0))), some (.inr (.inr (1, b, 0))), some (.inl 0), none], [], (I, tk_so J 4 0 (tk_u1 N 6 r), R)) _ from ?_)
  have key := sw_cwae_out (J := J) (N := tk_u1 N 6 r) (R := R) (Q := Q) (e := e) (v := v) hP w (by rw [tk_u1_ne (by decide)]; exact he) (by rw [tk_u1_same]; exact hv.cp hr) (fun r2 hr2 => hQ _ (by rw [tk_u1_same]; exact hr2) (fun s h4 h6 => by rw [tk_u1_ne h4, tk_u1_ne h6])) (sM S) 0 (N 4) none (Nat.zero_add _) (by rw [caM_0]; exact hv)
  rw [show tk_u1 (tk_u1 N 6 r) 4 (N 4) = tk_u1 N 6 r by rw [show N 4 = tk_u1 N 6 r 4 from (tk_u1_ne (by decide)).symm, tk_u1_id]] at key
  exact key
