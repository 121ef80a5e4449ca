/-! the reference: unwait, comeDown -/
set_option maxRecDepth 8000 in
theorem sm_uw_in {I : tkI} {J : tkJ} {R : Nat → Nat} {Q : tkQ} {S : tkS} (hP : NetP (I 6 0) S) (w : WF S) {e v : tkD} {N : Nat → Nat → Int64} (hv : WRow (N 29) v) {g : Nat} (hg : g < sG S) (hK : ∀ r o3, RowP 16 r (tsI S v g (tsO S v e (sM S) g) (sM S)) → tkDn tm_168 (88, [some (.inr (.inr (6, 0, 0))), some (.inl (nI g)), some (.inl (nI (sM S))), o3, none], [], (I, tk_so J 6 0 (tk_u1 N 24 r), R)) Q) : ∀ m c r o3, c + m = sM S → RowP 16 r (tsI S v g (tsO S v e (sM S) g) c) → tkDn tm_168 (16, [some (.inr (.inr (6, 0, 0))), some (.inl (nI g)), some (.inl (nI c)), o3, none], [], (I, tk_so J 6 0 (tk_u1 N 24 r), R)) Q := by
  have hM16 := w.1
  have hL60 := w.2.1
  have hG6 := w.2.2.1
  have hM := hP.m
  have hG := hP.g
  have hgl := w.gl hg
  have hf := w.fM hgl
  have he_ := w.eM hgl
  have e9 := hP.gl w hg
  have e6 := hP.lo w hgl
  intro m
  induction m with
  | zero =>
    intro c r o3 hc hr
    have hc : c = sM S := by omega
    subst hc
    show tkDn tm_168 (16, [some (.inr (.inr (6, 0, 0))), some (.inl (nI g)), some (.inl (nI (sM S))), o3, none], [], (I, tk_so J 6 0 (tk_u1 N 24 r), R)) _
    refine dn_run 3 (show tkDn tm_168 (21, [some (.inr (.inr (6, 0, 0))), some (.inl (nI g)), some (.inl (nI (sM S))), o3, none], [.inl (I 6 0 0 0), .inl (nI (sM S))], (I, tk_so J 6 0 (tk_u1 N 24 r), R)) _ from ?_)
    rw [hM]
    refine dn_if rfl rfl rfl (fun (qq : (nI (sM S)) ≤ (nI (sM S))) => ?_) (fun (qq : ¬ (nI (sM S)) ≤ (nI (sM S))) => ?_)
    · show tkDn tm_168 (88, [some (.inr (.inr (6, 0, 0))), some (.inl (nI g)), some (.inl (nI (sM S))), o3, none], [], (I, tk_so J 6 0 (tk_u1 N 24 r), R)) _
      exact hK r _ hr
    · exact absurd (nI_le (by omega) (by omega)) qq
  | succ m ih =>
    intro c r o3 hc hr
    show tkDn tm_168 (16, [some (.inr (.inr (6, 0, 0))), some (.inl (nI g)), some (.inl (nI c)), o3, none], [], (I, tk_so J 6 0 (tk_u1 N 24 r), R)) _
    refine dn_run 3 (show tkDn tm_168 (21, [some (.inr (.inr (6, 0, 0))), some (.inl (nI g)), some (.inl (nI c)), o3, none], [.inl (I 6 0 0 0), .inl (nI c)], (I, tk_so J 6 0 (tk_u1 N 24 r), R)) _ from ?_)
    rw [hM]
    refine dn_if rfl rfl rfl (fun (qq : (nI (sM S)) ≤ (nI c)) => ?_) (fun (qq : ¬ (nI (sM S)) ≤ (nI c)) => ?_)
    · exact absurd qq (nI_ge (by omega) (by omega))
    · show tkDn tm_168 (24, [some (.inr (.inr (6, 0, 0))), some (.inl (nI g)), some (.inl (nI c)), o3, none], [], (I, tk_so J 6 0 (tk_u1 N 24 r), R)) _
      refine dn_run 9 (show (vp_in ((6 * (nI c)) + (nI g)) 96) ∧ tkDn tm_168 (36, [some (.inr (.inr (6, 0, 0))), some (.inl (nI g)), some (.inl (nI c)), some (.inr (.inl (N 29 (((6 * (nI c)) + (nI g)).toNatClampNeg)))), none], [], (I, tk_so J 6 0 (tk_u1 N 24 r), R)) _ from ⟨by rw [ix6']; exact vp_in_nI (by omega) (by omega), ?_⟩)
      rw [ix6', hv.at (by omega) (by omega)]
      show tkDn tm_168 (36, [some (.inr (.inr (6, 0, 0))), some (.inl (nI g)), some (.inl (nI c)), some (.inr (.inl (v c g))), none], [], (I, tk_so J 6 0 (tk_u1 N 24 r), R)) _
      refine dn_run 3 (show tkDn tm_168 (39, [some (.inr (.inr (6, 0, 0))), some (.inl (nI g)), some (.inl (nI c)), some (.inr (.inl (v c g))), none], [.inl (nI g), .inr (.inr (6, 0, 0)), .inl (nI c)], (I, tk_so J 6 0 (tk_u1 N 24 r), R)) _ from ?_)
      refine dn_call rfl rfl rfl rfl rfl (sm_end hP w hg ?_)
      show tkDn tm_168 (42, [some (.inr (.inr (6, 0, 0))), some (.inl (nI g)), some (.inl (nI c)), some (.inr (.inl (v c g))), none], [.inl (nI (se S (sgl S g))), .inl (nI c)], (I, tk_so J 6 0 (tk_u1 N 24 r), R)) _
      refine dn_if rfl rfl rfl (fun (c1 : (nI c) = (nI (se S (sgl S g)))) => ?_) (fun (c1 : ¬ (nI c) = (nI (se S (sgl S g)))) => ?_)
      · show tkDn tm_168 (82, [some (.inr (.inr (6, 0, 0))), some (.inl (nI g)), some (.inl (nI c)), some (.inr (.inl (v c g))), none], [], (I, tk_so J 6 0 (tk_u1 N 24 r), R)) _
        refine dn_run 2 (show tkDn tm_168 (16, [some (.inr (.inr (6, 0, 0))), some (.inl (nI g)), some (.inl ((nI c) + 1)), some (.inr (.inl (v c g))), none], [], (I, tk_so J 6 0 (tk_u1 N 24 r), R)) _ from ?_)
        rw [nI_1]
        exact ih (c + 1) r _ (by omega) (by rw [show tsI S v g (tsO S v e (sM S) g) (c + 1) = tsI S v g (tsO S v e (sM S) g) c from if_neg (fun q => q.1 ((nI_eq (by omega) (by omega)).mp c1))]; exact hr)
      · show tkDn tm_168 (45, [some (.inr (.inr (6, 0, 0))), some (.inl (nI g)), some (.inl (nI c)), some (.inr (.inl (v c g))), none], [], (I, tk_so J 6 0 (tk_u1 N 24 r), R)) _
        refine dn_run 3 (show tkDn tm_168 (50, [some (.inr (.inr (6, 0, 0))), some (.inl (nI g)), some (.inl (nI c)), some (.inr (.inl (v c g))), none], [.inl (lg_cmp (v c g) 4611686018427387904)], (I, tk_so J 6 0 (tk_u1 N 24 r), R)) _ from ?_)
        refine dn_if rfl rfl rfl (fun (c2 : (lg_cmp (v c g) 4611686018427387904) = 0) => ?_) (fun (c2 : ¬ (lg_cmp (v c g) 4611686018427387904) = 0) => ?_)
        · show tkDn tm_168 (82, [some (.inr (.inr (6, 0, 0))), some (.inl (nI g)), some (.inl (nI c)), some (.inr (.inl (v c g))), none], [], (I, tk_so J 6 0 (tk_u1 N 24 r), R)) _
          refine dn_run 2 (show tkDn tm_168 (16, [some (.inr (.inr (6, 0, 0))), some (.inl (nI g)), some (.inl ((nI c) + 1)), some (.inr (.inl (v c g))), none], [], (I, tk_so J 6 0 (tk_u1 N 24 r), R)) _ from ?_)
          rw [nI_1]
          exact ih (c + 1) r _ (by omega) (by rw [show tsI S v g (tsO S v e (sM S) g) (c + 1) = tsI S v g (tsO S v e (sM S) g) c from if_neg (fun q => q.2.1 ((lg_cmp_eq _ _).mp c2))]; exact hr)
        · show tkDn tm_168 (53, [some (.inr (.inr (6, 0, 0))), some (.inl (nI g)), some (.inl (nI c)), some (.inr (.inl (v c g))), none], [], (I, tk_so J 6 0 (tk_u1 N 24 r), R)) _
          refine dn_run 11 (show (vp_in (nI g) 6) ∧ (vp_in (I 6 0 9 ((nI g).toNatClampNeg)) 60) ∧ tkDn tm_168 (68, [some (.inr (.inr (6, 0, 0))), some (.inl (nI g)), some (.inl (nI c)), some (.inr (.inl (v c g))), none], [.inl (lg_cmp (v c g) (((-(I 6 0 6 ((I 6 0 9 ((nI g).toNatClampNeg)).toNatClampNeg))) : Int32).toInt64))], (I, tk_so J 6 0 (tk_u1 N 24 r), R)) _ from ⟨vp_in_nI (by omega) (by omega), by rw [e9]; exact vp_in_nI (by omega) (by omega), ?_⟩)
          rw [e9, e6]
          refine dn_if rfl rfl rfl (fun (c3 : (lg_cmp (v c g) (-slo S (sgl S g)).toInt64) < 0) => ?_) (fun (c3 : ¬ (lg_cmp (v c g) (-slo S (sgl S g)).toInt64) < 0) => ?_)
          · show tkDn tm_168 (82, [some (.inr (.inr (6, 0, 0))), some (.inl (nI g)), some (.inl (nI c)), some (.inr (.inl (v c g))), none], [], (I, tk_so J 6 0 (tk_u1 N 24 r), R)) _
            refine dn_run 2 (show tkDn tm_168 (16, [some (.inr (.inr (6, 0, 0))), some (.inl (nI g)), some (.inl ((nI c) + 1)), some (.inr (.inl (v c g))), none], [], (I, tk_so J 6 0 (tk_u1 N 24 r), R)) _ from ?_)
            rw [nI_1]
            exact ih (c + 1) r _ (by omega) (by rw [show tsI S v g (tsO S v e (sM S) g) (c + 1) = tsI S v g (tsO S v e (sM S) g) c from if_neg (fun q => absurd q.2.2 (Int64.not_le.mpr ((lg_cmp_lt _ _).mp c3)))]; exact hr)
          · show tkDn tm_168 (71, [some (.inr (.inr (6, 0, 0))), some (.inl (nI g)), some (.inl (nI c)), some (.inr (.inl (v c g))), none], [], (I, tk_so J 6 0 (tk_u1 N 24 r), R)) _
            have c3 := Int64.not_lt.mp (fun z => c3 ((lg_cmp_lt _ _).mpr z))
            refine dn_run 4 (show tkDn tm_168 (75, [some (.inr (.inr (6, 0, 0))), some (.inl (nI g)), some (.inl (nI c)), some (.inr (.inl (v c g))), none], [.inl (nI g), .inr (.inr (6, 0, 0)), .inl (nI c), .inr (.inr (6, 0, 0))], (I, tk_so J 6 0 (tk_u1 N 24 r), R)) _ from ?_)
            refine dn_call rfl rfl rfl rfl rfl (sm_begin hP w hg ?_)
            show tkDn tm_168 (78, [some (.inr (.inr (6, 0, 0))), some (.inl (nI g)), some (.inl (nI c)), some (.inr (.inl (v c g))), none], [.inl (nI (sf S (sgl S g))), .inl (nI c), .inr (.inr (6, 0, 0))], (I, tk_so J 6 0 (tk_u1 N 24 r), R)) _
            refine dn_run 1 (show tkDn tm_168 (79, [some (.inr (.inr (6, 0, 0))), some (.inl (nI g)), some (.inl (nI c)), some (.inr (.inl (v c g))), none], [.inr (.inl (v c g)), .inl (nI (sf S (sgl S g))), .inl (nI c), .inr (.inr (6, 0, 0))], (I, tk_so J 6 0 (tk_u1 N 24 r), R)) _ from ?_)
            refine dn_call rfl rfl rfl rfl rfl (sm_lessEdge (by omega) (by omega) ?_)
            rw [tk_so_so, tk_so_same, tk_u1_u1, tk_u1_same]
            show tkDn tm_168 (82, [some (.inr (.inr (6, 0, 0))), some (.inl (nI g)), some (.inl (nI c)), some (.inr (.inl (v c g))), none], [], (I, tk_so J 6 0 (tk_u1 N 24 (low1 r (16 * c + sf S (sgl S g)) (v c g))), R)) _
            refine dn_run 2 (show tkDn tm_168 (16, [some (.inr (.inr (6, 0, 0))), some (.inl (nI g)), some (.inl ((nI c) + 1)), some (.inr (.inl (v c g))), none], [], (I, tk_so J 6 0 (tk_u1 N 24 (low1 r (16 * c + sf S (sgl S g)) (v c g))), R)) _ from ?_)
            rw [nI_1]
            exact ih (c + 1) _ _ (by omega) (by rw [show tsI S v g (tsO S v e (sM S) g) (c + 1) = lowM (tsI S v g (tsO S v e (sM S) g) c) c (sf S (sgl S g)) (v c g) from if_pos ⟨fun z => c1 (by rw [z]), fun z => c2 ((lg_cmp_eq _ _).mpr z), c3⟩]; exact hr.low (by omega) (by omega) (by omega))
set_option maxRecDepth 8000 in
theorem sm_uw_out {I : tkI} {J : tkJ} {R : Nat → Nat} {Q : tkQ} {S : tkS} (hP : NetP (I 6 0) S) (w : WF S) {e v : tkD} {N : Nat → Nat → Int64} (hv : WRow (N 29) v) (hK : ∀ r oc o3, RowP 16 r (tsO S v e (sM S) (sG S)) → tkDn tm_168 (94, [some (.inr (.inr (6, 0, 0))), some (.inl (nI (sG S))), oc, o3, none], [], (I, tk_so J 6 0 (tk_u1 N 24 r), R)) Q) : ∀ m g r oc o3, g + m = sG S → RowP 16 r (tsO S v e (sM S) g) → tkDn tm_168 (6, [some (.inr (.inr (6, 0, 0))), some (.inl (nI g)), oc, o3, none], [], (I, tk_so J 6 0 (tk_u1 N 24 r), R)) Q := by
  have hM16 := w.1
  have hL60 := w.2.1
  have hG6 := w.2.2.1
  have hM := hP.m
  have hG := hP.g
  intro m
  induction m with
  | zero =>
    intro g r oc o3 hg hr
    have hg : g = sG S := by omega
    subst hg
    show tkDn tm_168 (6, [some (.inr (.inr (6, 0, 0))), some (.inl (nI (sG S))), oc, o3, none], [], (I, tk_so J 6 0 (tk_u1 N 24 r), R)) _
    refine dn_run 3 (show tkDn tm_168 (11, [some (.inr (.inr (6, 0, 0))), some (.inl (nI (sG S))), oc, o3, none], [.inl (I 6 0 0 2), .inl (nI (sG S))], (I, tk_so J 6 0 (tk_u1 N 24 r), R)) _ from ?_)
    rw [hG]
    refine dn_if rfl rfl rfl (fun (qq : (nI (sG S)) ≤ (nI (sG S))) => ?_) (fun (qq : ¬ (nI (sG S)) ≤ (nI (sG S))) => ?_)
    · exact hK r _ _ hr
    · exact absurd (nI_le (by omega) (by omega)) qq
  | succ m ih =>
    intro g r oc o3 hg hr
    show tkDn tm_168 (6, [some (.inr (.inr (6, 0, 0))), some (.inl (nI g)), oc, o3, none], [], (I, tk_so J 6 0 (tk_u1 N 24 r), R)) _
    refine dn_run 3 (show tkDn tm_168 (11, [some (.inr (.inr (6, 0, 0))), some (.inl (nI g)), oc, o3, none], [.inl (I 6 0 0 2), .inl (nI g)], (I, tk_so J 6 0 (tk_u1 N 24 r), R)) _ from ?_)
    rw [hG]
    refine dn_if rfl rfl rfl (fun (qq : (nI (sG S)) ≤ (nI g)) => ?_) (fun (qq : ¬ (nI (sG S)) ≤ (nI g)) => ?_)
    · exact absurd qq (nI_ge (by omega) (by omega))
    · show tkDn tm_168 (14, [some (.inr (.inr (6, 0, 0))), some (.inl (nI g)), oc, o3, none], [], (I, tk_so J 6 0 (tk_u1 N 24 r), R)) _
      refine dn_run 2 (show tkDn tm_168 (16, [some (.inr (.inr (6, 0, 0))), some (.inl (nI g)), some (.inl 0), o3, none], [], (I, tk_so J 6 0 (tk_u1 N 24 r), R)) _ from ?_)
      refine sm_uw_in hP w hv (by omega) (fun r2 o3x hr2 => ?_) (sM S) 0 r _ (Nat.zero_add _) hr
      show tkDn tm_168 (88, [some (.inr (.inr (6, 0, 0))), some (.inl (nI g)), some (.inl (nI (sM S))), o3x, none], [], (I, tk_so J 6 0 (tk_u1 N 24 r2), R)) _
      refine dn_run 2 (show tkDn tm_168 (6, [some (.inr (.inr (6, 0, 0))), some (.inl ((nI g) + 1)), some (.inl (nI (sM S))), o3x, none], [], (I, tk_so J 6 0 (tk_u1 N 24 r2), R)) _ from ?_)
      rw [nI_1]
      exact ih (g + 1) r2 _ _ (by omega) hr2
set_option maxRecDepth 8000 in
theorem sm_unwait {I : tkI} {J : tkJ} {R : Nat → Nat} {Q : tkQ} {S : tkS} (hP : NetP (I 6 0) S) (w : WF S) {e v : tkD} {N : Nat → Nat → Int64} (he : RowP 16 (N 24) e) (hv : WRow (N 25) v) (hQ : ∀ N2, RowP 16 (N2 24) (tsO S v e (sM S) (sG S)) → (∀ s, s ≠ 24 → s ≠ 28 → s ≠ 29 → N2 s = N s) → Q none (I, tk_so J 6 0 N2, R)) : tkDn tm_168 (0, [some (.inr (.inr (6, 0, 0))), none, none, none, none], [], (I, tk_so J 6 0 N, R)) Q := by
  refine dn_run 1 (show tkDn tm_168 (1, [some (.inr (.inr (6, 0, 0))), none, none, none, none], [.inr (.inr (6, 0, 0))], (I, tk_so J 6 0 N, R)) _ from ?_)
  refine dn_call rfl rfl rfl rfl rfl (sm_see (fun N1 h28 h29 h1 => ?_))
  show tkDn tm_168 (4, [some (.inr (.inr (6, 0, 0))), none, none, none, none], [], (I, tk_so J 6 0 N1, R)) _
  refine dn_run 2 (show tkDn tm_168 (6, [some (.inr (.inr (6, 0, 0))), some (.inl 0), none, none, none], [], (I, tk_so J 6 0 N1, R)) _ from ?_)
  have key := sm_uw_out (J := J) (N := N1) (R := R) (Q := Q) (e := e) (v := v) hP w (hv.cp h29) (fun r oc o3 hr => ?_) (sG S) 0 (N1 24) none none (Nat.zero_add _) (by rw [h1 24 (by decide) (by decide)]; exact he)
  · rw [tk_u1_id] at key; exact key
  · refine dn_ret0 rfl rfl rfl rfl ?_
    exact hQ _ (by rw [tk_u1_same]; exact hr) (fun s a1 a2 a3 => by rw [tk_u1_ne a1, h1 s a2 a3])
