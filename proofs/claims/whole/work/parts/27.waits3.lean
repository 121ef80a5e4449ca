/-! Waits: the other steps of a round -/
set_option maxRecDepth 8000 in
theorem sw_ts_in {I : tkI} {J : tkJ} {R : Nat → Nat} {Q : tkQ} {b : Nat} {S : tkS} (hP : NetP (I 1 b) S) (w : WF S) {e v : tkD} {N : Nat → Nat → Int64} (hv : WRow (N 4) v) {g : Nat} (hg : g < sG S) (hK : ∀ r o4, RowP 16 r (tsI S v g (tsO S v e (sM S) g) (sM S)) → tkDn tm_91 (84, [some (.inr (.inr (4, 0, 0))), some (.inr (.inr (1, b, 0))), some (.inl (nI g)), some (.inl (nI (sM S))), o4, none], [], (I, tk_so J 4 0 (tk_u1 N 1 r), R)) Q) : ∀ m c r o4, c + m = sM S → RowP 16 r (tsI S v g (tsO S v e (sM S) g) c) → tkDn tm_91 (12, [some (.inr (.inr (4, 0, 0))), some (.inr (.inr (1, b, 0))), some (.inl (nI g)), some (.inl (nI c)), o4, none], [], (I, tk_so J 4 0 (tk_u1 N 1 r), R)) Q := by
  have hM16 := w.1
  have hL60 := w.2.1
  have hG6 := w.2.2.1
  have hgl := w.gl hg
  have hf := w.fM hgl
  have he_ := w.eM hgl
  intro m
  induction m with
  | zero =>
    intro c r o4 hc hr
    have hc : c = sM S := by omega
    subst hc
    show tkDn tm_91 (12, [some (.inr (.inr (4, 0, 0))), some (.inr (.inr (1, b, 0))), some (.inl (nI g)), some (.inl (nI (sM S))), o4, none], [], (I, tk_so J 4 0 (tk_u1 N 1 r), R)) _
    refine dn_run 2 (show tkDn tm_91 (14, [some (.inr (.inr (4, 0, 0))), some (.inr (.inr (1, b, 0))), some (.inl (nI g)), some (.inl (nI (sM S))), o4, none], [.inr (.inr (1, b, 0)), .inl (nI (sM S))], (I, tk_so J 4 0 (tk_u1 N 1 r), R)) _ from ?_)
    refine dn_call rfl rfl rfl rfl rfl (sN_momentCount hP ?_)
    show tkDn tm_91 (17, [some (.inr (.inr (4, 0, 0))), some (.inr (.inr (1, b, 0))), some (.inl (nI g)), some (.inl (nI (sM S))), o4, none], [.inl (nI (sM S)), .inl (nI (sM S))], (I, tk_so J 4 0 (tk_u1 N 1 r), R)) _
    refine dn_if rfl rfl rfl (fun (qq : (nI (sM S)) ≤ (nI (sM S))) => ?_) (fun (qq : ¬ (nI (sM S)) ≤ (nI (sM S))) => ?_)
    · show tkDn tm_91 (84, [some (.inr (.inr (4, 0, 0))), some (.inr (.inr (1, b, 0))), some (.inl (nI g)), some (.inl (nI (sM S))), o4, none], [], (I, tk_so J 4 0 (tk_u1 N 1 r), R)) _
      exact hK r _ hr
    · exact absurd (nI_le (by omega) (by omega)) qq
  | succ m ih =>
    intro c r o4 hc hr
    show tkDn tm_91 (12, [some (.inr (.inr (4, 0, 0))), some (.inr (.inr (1, b, 0))), some (.inl (nI g)), some (.inl (nI c)), o4, none], [], (I, tk_so J 4 0 (tk_u1 N 1 r), R)) _
    refine dn_run 2 (show tkDn tm_91 (14, [some (.inr (.inr (4, 0, 0))), some (.inr (.inr (1, b, 0))), some (.inl (nI g)), some (.inl (nI c)), o4, none], [.inr (.inr (1, b, 0)), .inl (nI c)], (I, tk_so J 4 0 (tk_u1 N 1 r), R)) _ from ?_)
    refine dn_call rfl rfl rfl rfl rfl (sN_momentCount hP ?_)
    show tkDn tm_91 (17, [some (.inr (.inr (4, 0, 0))), some (.inr (.inr (1, b, 0))), some (.inl (nI g)), some (.inl (nI c)), o4, none], [.inl (nI (sM S)), .inl (nI c)], (I, tk_so J 4 0 (tk_u1 N 1 r), R)) _
    refine dn_if rfl rfl rfl (fun (qq : (nI (sM S)) ≤ (nI c)) => ?_) (fun (qq : ¬ (nI (sM S)) ≤ (nI c)) => ?_)
    · exact absurd qq (nI_ge (by omega) (by omega))
    · show tkDn tm_91 (20, [some (.inr (.inr (4, 0, 0))), some (.inr (.inr (1, b, 0))), some (.inl (nI g)), some (.inl (nI c)), o4, none], [], (I, tk_so J 4 0 (tk_u1 N 1 r), R)) _
      refine dn_run 4 (show tkDn tm_91 (26, [some (.inr (.inr (4, 0, 0))), some (.inr (.inr (1, b, 0))), some (.inl (nI g)), some (.inl (nI c)), o4, none], [.inl (nI g), .inl (nI c), .inr (.inr (4, 0, 4))], (I, tk_so J 4 0 (tk_u1 N 1 r), R)) _ from ?_)
      refine dn_call rfl rfl rfl rfl rfl (sw_cell ?_)
      show tkDn tm_91 (29, [some (.inr (.inr (4, 0, 0))), some (.inr (.inr (1, b, 0))), some (.inl (nI g)), some (.inl (nI c)), o4, none], [.inl (nI (6 * c + g)), .inr (.inr (4, 0, 4))], (I, tk_so J 4 0 (tk_u1 N 1 r), R)) _
      refine dn_run 2 (show (vp_in (nI (6 * c + g)) 96) ∧ tkDn tm_91 (32, [some (.inr (.inr (4, 0, 0))), some (.inr (.inr (1, b, 0))), some (.inl (nI g)), some (.inl (nI c)), some (.inr (.inl (N 4 ((nI (6 * c + g)).toNatClampNeg)))), none], [], (I, tk_so J 4 0 (tk_u1 N 1 r), R)) _ from ⟨vp_in_nI (by omega) (by omega), ?_⟩)
      rw [hv.at (by omega) (by omega)]
      show tkDn tm_91 (32, [some (.inr (.inr (4, 0, 0))), some (.inr (.inr (1, b, 0))), some (.inl (nI g)), some (.inl (nI c)), some (.inr (.inl (v c g))), none], [], (I, tk_so J 4 0 (tk_u1 N 1 r), R)) _
      refine dn_run 3 (show tkDn tm_91 (35, [some (.inr (.inr (4, 0, 0))), some (.inr (.inr (1, b, 0))), some (.inl (nI g)), some (.inl (nI c)), some (.inr (.inl (v c g))), none], [.inl (nI g), .inr (.inr (1, b, 0)), .inl (nI c)], (I, tk_so J 4 0 (tk_u1 N 1 r), R)) _ from ?_)
      refine dn_call rfl rfl rfl rfl rfl (sN_giftTo hP w hg ?_)
      show tkDn tm_91 (38, [some (.inr (.inr (4, 0, 0))), some (.inr (.inr (1, b, 0))), some (.inl (nI g)), some (.inl (nI c)), some (.inr (.inl (v c g))), none], [.inl (nI (se S (sgl S g))), .inl (nI c)], (I, tk_so J 4 0 (tk_u1 N 1 r), R)) _
      refine dn_if rfl rfl rfl (fun (c1 : (nI c) = (nI (se S (sgl S g)))) => ?_) (fun (c1 : ¬ (nI c) = (nI (se S (sgl S g)))) => ?_)
      · show tkDn tm_91 (78, [some (.inr (.inr (4, 0, 0))), some (.inr (.inr (1, b, 0))), some (.inl (nI g)), some (.inl (nI c)), some (.inr (.inl (v c g))), none], [], (I, tk_so J 4 0 (tk_u1 N 1 r), R)) _
        refine dn_run 2 (show tkDn tm_91 (12, [some (.inr (.inr (4, 0, 0))), some (.inr (.inr (1, b, 0))), some (.inl (nI g)), some (.inl ((nI c) + 1)), some (.inr (.inl (v c g))), none], [], (I, tk_so J 4 0 (tk_u1 N 1 r), R)) _ from ?_)
        rw [nI_1]
        exact ih (c + 1) r _ (by omega) (by rw [show tsI S v g (tsO S v e (sM S) g) (c + 1) = tsI S v g (tsO S v e (sM S) g) c from if_neg (fun q => q.1 ((nI_eq (by omega) (by omega)).mp c1))]; exact hr)
      · show tkDn tm_91 (41, [some (.inr (.inr (4, 0, 0))), some (.inr (.inr (1, b, 0))), some (.inl (nI g)), some (.inl (nI c)), some (.inr (.inl (v c g))), none], [], (I, tk_so J 4 0 (tk_u1 N 1 r), R)) _
        refine dn_run 3 (show tkDn tm_91 (47, [some (.inr (.inr (4, 0, 0))), some (.inr (.inr (1, b, 0))), some (.inl (nI g)), some (.inl (nI c)), some (.inr (.inl (v c g))), none], [.inl (lg_cmp (v c g) 4611686018427387904)], (I, tk_so J 4 0 (tk_u1 N 1 r), R)) _ from ?_)
        refine dn_if rfl rfl rfl (fun (c2 : (lg_cmp (v c g) 4611686018427387904) = 0) => ?_) (fun (c2 : ¬ (lg_cmp (v c g) 4611686018427387904) = 0) => ?_)
        · show tkDn tm_91 (78, [some (.inr (.inr (4, 0, 0))), some (.inr (.inr (1, b, 0))), some (.inl (nI g)), some (.inl (nI c)), some (.inr (.inl (v c g))), none], [], (I, tk_so J 4 0 (tk_u1 N 1 r), R)) _
          refine dn_run 2 (show tkDn tm_91 (12, [some (.inr (.inr (4, 0, 0))), some (.inr (.inr (1, b, 0))), some (.inl (nI g)), some (.inl ((nI c) + 1)), some (.inr (.inl (v c g))), none], [], (I, tk_so J 4 0 (tk_u1 N 1 r), R)) _ from ?_)
          rw [nI_1]
          exact ih (c + 1) r _ (by omega) (by rw [show tsI S v g (tsO S v e (sM S) g) (c + 1) = tsI S v g (tsO S v e (sM S) g) c from if_neg (fun q => q.2.1 ((lg_cmp_eq _ _).mp c2))]; exact hr)
        · show tkDn tm_91 (50, [some (.inr (.inr (4, 0, 0))), some (.inr (.inr (1, b, 0))), some (.inl (nI g)), some (.inl (nI c)), some (.inr (.inl (v c g))), none], [], (I, tk_so J 4 0 (tk_u1 N 1 r), R)) _
          refine dn_run 3 (show tkDn tm_91 (54, [some (.inr (.inr (4, 0, 0))), some (.inr (.inr (1, b, 0))), some (.inl (nI g)), some (.inl (nI c)), some (.inr (.inl (v c g))), none], [.inl (nI g), .inr (.inr (1, b, 0)), .inr (.inl (v c g))], (I, tk_so J 4 0 (tk_u1 N 1 r), R)) _ from ?_)
          refine dn_call rfl rfl rfl rfl rfl (sN_giftLow hP w hg ?_)
          show tkDn tm_91 (57, [some (.inr (.inr (4, 0, 0))), some (.inr (.inr (1, b, 0))), some (.inl (nI g)), some (.inl (nI c)), some (.inr (.inl (v c g))), none], [.inl (slo S (sgl S g)), .inr (.inl (v c g))], (I, tk_so J 4 0 (tk_u1 N 1 r), R)) _
          refine dn_run 3 (show tkDn tm_91 (60, [some (.inr (.inr (4, 0, 0))), some (.inr (.inr (1, b, 0))), some (.inl (nI g)), some (.inl (nI c)), some (.inr (.inl (v c g))), none], [.inl (lg_cmp (v c g) (((-(slo S (sgl S g))) : Int32).toInt64))], (I, tk_so J 4 0 (tk_u1 N 1 r), R)) _ from ?_)
          refine dn_if rfl rfl rfl (fun (c3 : (lg_cmp (v c g) (((-(slo S (sgl S g))) : Int32).toInt64)) < 0) => ?_) (fun (c3 : ¬ (lg_cmp (v c g) (((-(slo S (sgl S g))) : Int32).toInt64)) < 0) => ?_)
          · show tkDn tm_91 (78, [some (.inr (.inr (4, 0, 0))), some (.inr (.inr (1, b, 0))), some (.inl (nI g)), some (.inl (nI c)), some (.inr (.inl (v c g))), none], [], (I, tk_so J 4 0 (tk_u1 N 1 r), R)) _
            refine dn_run 2 (show tkDn tm_91 (12, [some (.inr (.inr (4, 0, 0))), some (.inr (.inr (1, b, 0))), some (.inl (nI g)), some (.inl ((nI c) + 1)), some (.inr (.inl (v c g))), none], [], (I, tk_so J 4 0 (tk_u1 N 1 r), R)) _ from ?_)
            rw [nI_1]
            exact ih (c + 1) r _ (by omega) (by rw [show tsI S v g (tsO S v e (sM S) g) (c + 1) = tsI S v g (tsO S v e (sM S) g) c from if_neg (fun q => absurd q.2.2 (Int64.not_le.mpr ((lg_cmp_lt _ _).mp c3)))]; exact hr)
          · show tkDn tm_91 (63, [some (.inr (.inr (4, 0, 0))), some (.inr (.inr (1, b, 0))), some (.inl (nI g)), some (.inl (nI c)), some (.inr (.inl (v c g))), none], [], (I, tk_so J 4 0 (tk_u1 N 1 r), R)) _
            have c3 := Int64.not_lt.mp (fun z => c3 ((lg_cmp_lt _ _).mpr z))
            refine dn_run 5 (show tkDn tm_91 (70, [some (.inr (.inr (4, 0, 0))), some (.inr (.inr (1, b, 0))), some (.inl (nI g)), some (.inl (nI c)), some (.inr (.inl (v c g))), none], [.inl (nI g), .inr (.inr (1, b, 0)), .inl (nI c), .inr (.inr (4, 0, 1))], (I, tk_so J 4 0 (tk_u1 N 1 r), R)) _ from ?_)
            refine dn_call rfl rfl rfl rfl rfl (sN_giftFrom hP w hg ?_)
            show tkDn tm_91 (73, [some (.inr (.inr (4, 0, 0))), some (.inr (.inr (1, b, 0))), some (.inl (nI g)), some (.inl (nI c)), some (.inr (.inl (v c g))), none], [.inl (nI (sf S (sgl S g))), .inl (nI c), .inr (.inr (4, 0, 1))], (I, tk_so J 4 0 (tk_u1 N 1 r), R)) _
            refine dn_run 1 (show tkDn tm_91 (75, [some (.inr (.inr (4, 0, 0))), some (.inr (.inr (1, b, 0))), some (.inl (nI g)), some (.inl (nI c)), some (.inr (.inl (v c g))), none], [.inr (.inl (v c g)), .inl (nI (sf S (sgl S g))), .inl (nI c), .inr (.inr (4, 0, 1))], (I, tk_so J 4 0 (tk_u1 N 1 r), R)) _ from ?_)
            refine dn_call rfl rfl rfl rfl rfl (ss_lower_4_1 (by omega) (by omega) ?_)
            rw [tk_so_so, tk_so_same, tk_u1_u1, tk_u1_same]
            show tkDn tm_91 (78, [some (.inr (.inr (4, 0, 0))), some (.inr (.inr (1, b, 0))), some (.inl (nI g)), some (.inl (nI c)), some (.inr (.inl (v c g))), none], [], (I, tk_so J 4 0 (tk_u1 N 1 (low1 r (16 * c + (sf S (sgl S g))) (v c g))), R)) _
            refine dn_run 2 (show tkDn tm_91 (12, [some (.inr (.inr (4, 0, 0))), some (.inr (.inr (1, b, 0))), some (.inl (nI g)), some (.inl ((nI c) + 1)), some (.inr (.inl (v c g))), none], [], (I, tk_so J 4 0 (tk_u1 N 1 (low1 r (16 * c + (sf S (sgl S g))) (v c g))), R)) _ from ?_)
            rw [nI_1]
            exact ih (c + 1) _ _ (by omega) (by rw [show tsI S v g (tsO S v e (sM S) g) (c + 1) = lowM (tsI S v g (tsO S v e (sM S) g) c) c (sf S (sgl S g)) (v c g) from if_pos ⟨fun z => c1 (by rw [z]), fun z => c2 ((lg_cmp_eq _ _).mpr z), c3⟩]; exact hr.low (by omega) (by omega) (by omega))
set_option maxRecDepth 8000 in
theorem sw_ts_out {I : tkI} {J : tkJ} {R : Nat → Nat} {Q : tkQ} {b : Nat} {S : tkS} (hP : NetP (I 1 b) S) (w : WF S) {e v : tkD} {N : Nat → Nat → Int64} (hv : WRow (N 4) v) (hQ : ∀ r, RowP 16 r (tsO S v e (sM S) (sG S)) → Q none (I, tk_so J 4 0 (tk_u1 N 1 r), R)) : ∀ m g r oc o4, g + m = sG S → RowP 16 r (tsO S v e (sM S) g) → tkDn tm_91 (2, [some (.inr (.inr (4, 0, 0))), some (.inr (.inr (1, b, 0))), some (.inl (nI g)), oc, o4, none], [], (I, tk_so J 4 0 (tk_u1 N 1 r), R)) Q := by
  have hM16 := w.1
  have hL60 := w.2.1
  have hG6 := w.2.2.1
  intro m
  induction m with
  | zero =>
    intro g r oc o4 hg hr
    have hg : g = sG S := by omega
    rw [hg] at hr
    show tkDn tm_91 (2, [some (.inr (.inr (4, 0, 0))), some (.inr (.inr (1, b, 0))), some (.inl (nI g)), oc, o4, none], [], (I, tk_so J 4 0 (tk_u1 N 1 r), R)) _
    refine dn_run 2 (show tkDn tm_91 (4, [some (.inr (.inr (4, 0, 0))), some (.inr (.inr (1, b, 0))), some (.inl (nI g)), oc, o4, none], [.inr (.inr (1, b, 0)), .inl (nI g)], (I, tk_so J 4 0 (tk_u1 N 1 r), R)) _ from ?_)
    refine dn_call rfl rfl rfl rfl rfl (sN_giftCount hP ?_)
    show tkDn tm_91 (7, [some (.inr (.inr (4, 0, 0))), some (.inr (.inr (1, b, 0))), some (.inl (nI g)), oc, o4, none], [.inl (nI (sG S)), .inl (nI g)], (I, tk_so J 4 0 (tk_u1 N 1 r), R)) _
    refine dn_if rfl rfl rfl (fun (qq : (nI (sG S)) ≤ (nI g)) => ?_) (fun (qq : ¬ (nI (sG S)) ≤ (nI g)) => ?_)
    · show tkDn tm_91 (90, [some (.inr (.inr (4, 0, 0))), some (.inr (.inr (1, b, 0))), some (.inl (nI g)), oc, o4, none], [], (I, tk_so J 4 0 (tk_u1 N 1 r), R)) _
      refine dn_ret0 rfl rfl rfl rfl ?_
      exact hQ r hr
    · exact absurd (nI_le (by omega) (by omega)) qq
  | succ m ih =>
    intro g r oc o4 hg hr
    show tkDn tm_91 (2, [some (.inr (.inr (4, 0, 0))), some (.inr (.inr (1, b, 0))), some (.inl (nI g)), oc, o4, none], [], (I, tk_so J 4 0 (tk_u1 N 1 r), R)) _
    refine dn_run 2 (show tkDn tm_91 (4, [some (.inr (.inr (4, 0, 0))), some (.inr (.inr (1, b, 0))), some (.inl (nI g)), oc, o4, none], [.inr (.inr (1, b, 0)), .inl (nI g)], (I, tk_so J 4 0 (tk_u1 N 1 r), R)) _ from ?_)
    refine dn_call rfl rfl rfl rfl rfl (sN_giftCount hP ?_)
    show tkDn tm_91 (7, [some (.inr (.inr (4, 0, 0))), some (.inr (.inr (1, b, 0))), some (.inl (nI g)), oc, o4, none], [.inl (nI (sG S)), .inl (nI g)], (I, tk_so J 4 0 (tk_u1 N 1 r), R)) _
    refine dn_if rfl rfl rfl (fun (qq : (nI (sG S)) ≤ (nI g)) => ?_) (fun (qq : ¬ (nI (sG S)) ≤ (nI g)) => ?_)
    · exact absurd qq (nI_ge (by omega) (by omega))
    · show tkDn tm_91 (10, [some (.inr (.inr (4, 0, 0))), some (.inr (.inr (1, b, 0))), some (.inl (nI g)), oc, o4, none], [], (I, tk_so J 4 0 (tk_u1 N 1 r), R)) _
      refine dn_run 2 (show tkDn tm_91 (12, [some (.inr (.inr (4, 0, 0))), some (.inr (.inr (1, b, 0))), some (.inl (nI g)), some (.inl 0), o4, none], [], (I, tk_so J 4 0 (tk_u1 N 1 r), R)) _ from ?_)
      refine sw_ts_in hP w hv (by omega) (fun r2 o4x hr2 => ?_) (sM S) 0 r _ (Nat.zero_add _) hr
      show tkDn tm_91 (84, [some (.inr (.inr (4, 0, 0))), some (.inr (.inr (1, b, 0))), some (.inl (nI g)), some (.inl (nI (sM S))), o4x, none], [], (I, tk_so J 4 0 (tk_u1 N 1 r2), R)) _
      refine dn_run 2 (show tkDn tm_91 (2, [some (.inr (.inr (4, 0, 0))), some (.inr (.inr (1, b, 0))), some (.inl ((nI g) + 1)), some (.inl (nI (sM S))), o4x, none], [], (I, tk_so J 4 0 (tk_u1 N 1 r2), R)) _ from ?_)
      rw [nI_1]
      exact ih (g + 1) r2 _ _ (by omega) hr2
set_option maxRecDepth 8000 in
theorem sw_turnShort {I : tkI} {J : tkJ} {R : Nat → Nat} {Q : tkQ} {b : Nat} {S : tkS} (hP : NetP (I 1 b) S) (w : WF S) {e v : tkD} {N : Nat → Nat → Int64} (he : RowP 16 (N 1) e) (hv : WRow (N 4) v) (hQ : ∀ N2, RowP 16 (N2 1) (tsO S v e (sM S) (sG S)) → (∀ s, s ≠ 1 → N2 s = N s) → Q none (I, tk_so J 4 0 N2, R)) : tkDn tm_91 (0, [some (.inr (.inr (4, 0, 0))), some (.inr (.inr (1, b, 0))), none, none, none, none], [], (I, tk_so J 4 0 N, R)) Q := by
  refine dn_run 2 (show tkDn tm_91 (2, [some (.inr (.inr (4, 0, 0))), some (.inr (.inr (1, b, 0))), some (.inl 0), none, none, none], [], (I, tk_so J 4 0 N, R)) _ from ?_)
  have key := sw_ts_out (J := J) (N := N) (R := R) (Q := Q) (e := e) (v := v) hP w hv (fun r hr => hQ _ (by rw [tk_u1_same]; exact hr) (fun s h1 => tk_u1_ne h1)) (sG S) 0 (N 1) none none (Nat.zero_add _) he
  rw [tk_u1_id] at key
  exact key
set_option maxRecDepth 8000 in
theorem sw_ce_in {I : tkI} {J : tkJ} {R : Nat → Nat} {Q : tkQ} {b : Nat} {S : tkS} (hP : NetP (I 1 b) S) (w : WF S) {e q : tkD} {N : Nat → Nat → Int64} (hq : RowP 16 (N 3) q) {g : Nat} (hg : g < sG S) (hK : ∀ r o4, RowP 16 r (ceI S q g (ceO S q e (sM S) g) (sM S)) → tkDn tm_92 (82, [some (.inr (.inr (4, 0, 0))), some (.inr (.inr (1, b, 0))), some (.inl (nI g)), some (.inl (nI (sM S))), o4, none], [], (I, tk_so J 4 0 (tk_u1 N 1 r), R)) Q) : ∀ m c r o4, c + m = sM S → RowP 16 r (ceI S q g (ceO S q e (sM S) g) c) → tkDn tm_92 (23, [some (.inr (.inr (4, 0, 0))), some (.inr (.inr (1, b, 0))), some (.inl (nI g)), some (.inl (nI c)), o4, none], [], (I, tk_so J 4 0 (tk_u1 N 1 r), R)) Q := by
  have hM16 := w.1
  have hL60 := w.2.1
  have hG6 := w.2.2.1
  have hgl := w.gl hg
  have hf := w.fM hgl
  have he_ := w.eM hgl
  intro m
  induction m with
  | zero =>
    intro c r o4 hc hr
    have hc : c = sM S := by omega
    subst hc
    show tkDn tm_92 (23, [some (.inr (.inr (4, 0, 0))), some (.inr (.inr (1, b, 0))), some (.inl (nI g)), some (.inl (nI (sM S))), o4, none], [], (I, tk_so J 4 0 (tk_u1 N 1 r), R)) _
    refine dn_run 2 (show tkDn tm_92 (25, [some (.inr (.inr (4, 0, 0))), some (.inr (.inr (1, b, 0))), some (.inl (nI g)), some (.inl (nI (sM S))), o4, none], [.inr (.inr (1, b, 0)), .inl (nI (sM S))], (I, tk_so J 4 0 (tk_u1 N 1 r), R)) _ from ?_)
    refine dn_call rfl rfl rfl rfl rfl (sN_momentCount hP ?_)
    show tkDn tm_92 (28, [some (.inr (.inr (4, 0, 0))), some (.inr (.inr (1, b, 0))), some (.inl (nI g)), some (.inl (nI (sM S))), o4, none], [.inl (nI (sM S)), .inl (nI (sM S))], (I, tk_so J 4 0 (tk_u1 N 1 r), R)) _
    refine dn_if rfl rfl rfl (fun (qq : (nI (sM S)) ≤ (nI (sM S))) => ?_) (fun (qq : ¬ (nI (sM S)) ≤ (nI (sM S))) => ?_)
    · show tkDn tm_92 (82, [some (.inr (.inr (4, 0, 0))), some (.inr (.inr (1, b, 0))), some (.inl (nI g)), some (.inl (nI (sM S))), o4, none], [], (I, tk_so J 4 0 (tk_u1 N 1 r), R)) _
      exact hK r _ hr
    · exact absurd (nI_le (by omega) (by omega)) qq
  | succ m ih =>
    intro c r o4 hc hr
    show tkDn tm_92 (23, [some (.inr (.inr (4, 0, 0))), some (.inr (.inr (1, b, 0))), some (.inl (nI g)), some (.inl (nI c)), o4, none], [], (I, tk_so J 4 0 (tk_u1 N 1 r), R)) _
    refine dn_run 2 (show tkDn tm_92 (25, [some (.inr (.inr (4, 0, 0))), some (.inr (.inr (1, b, 0))), some (.inl (nI g)), some (.inl (nI c)), o4, none], [.inr (.inr (1, b, 0)), .inl (nI c)], (I, tk_so J 4 0 (tk_u1 N 1 r), R)) _ from ?_)
    refine dn_call rfl rfl rfl rfl rfl (sN_momentCount hP ?_)
    show tkDn tm_92 (28, [some (.inr (.inr (4, 0, 0))), some (.inr (.inr (1, b, 0))), some (.inl (nI g)), some (.inl (nI c)), o4, none], [.inl (nI (sM S)), .inl (nI c)], (I, tk_so J 4 0 (tk_u1 N 1 r), R)) _
    refine dn_if rfl rfl rfl (fun (qq : (nI (sM S)) ≤ (nI c)) => ?_) (fun (qq : ¬ (nI (sM S)) ≤ (nI c)) => ?_)
    · exact absurd qq (nI_ge (by omega) (by omega))
    · show tkDn tm_92 (31, [some (.inr (.inr (4, 0, 0))), some (.inr (.inr (1, b, 0))), some (.inl (nI g)), some (.inl (nI c)), o4, none], [], (I, tk_so J 4 0 (tk_u1 N 1 r), R)) _
      refine dn_run 4 (show tkDn tm_92 (37, [some (.inr (.inr (4, 0, 0))), some (.inr (.inr (1, b, 0))), some (.inl (nI g)), some (.inl (nI c)), o4, none], [.inl (nI g), .inr (.inr (1, b, 0)), .inr (.inr (4, 0, 3))], (I, tk_so J 4 0 (tk_u1 N 1 r), R)) _ from ?_)
      refine dn_call rfl rfl rfl rfl rfl (sN_giftTo hP w hg ?_)
      show tkDn tm_92 (40, [some (.inr (.inr (4, 0, 0))), some (.inr (.inr (1, b, 0))), some (.inl (nI g)), some (.inl (nI c)), o4, none], [.inl (nI (se S (sgl S g))), .inr (.inr (4, 0, 3))], (I, tk_so J 4 0 (tk_u1 N 1 r), R)) _
      refine dn_run 1 (show tkDn tm_92 (41, [some (.inr (.inr (4, 0, 0))), some (.inr (.inr (1, b, 0))), some (.inl (nI g)), some (.inl (nI c)), o4, none], [.inl (nI c), .inl (nI (se S (sgl S g))), .inr (.inr (4, 0, 3))], (I, tk_so J 4 0 (tk_u1 N 1 r), R)) _ from ?_)
      refine dn_call rfl rfl rfl rfl rfl (ss_cell ?_)
      show tkDn tm_92 (44, [some (.inr (.inr (4, 0, 0))), some (.inr (.inr (1, b, 0))), some (.inl (nI g)), some (.inl (nI c)), o4, none], [.inl (nI (16 * se S (sgl S g) + c)), .inr (.inr (4, 0, 3))], (I, tk_so J 4 0 (tk_u1 N 1 r), R)) _
      refine dn_run 2 (show (vp_in (nI (16 * se S (sgl S g) + c)) 256) ∧ tkDn tm_92 (47, [some (.inr (.inr (4, 0, 0))), some (.inr (.inr (1, b, 0))), some (.inl (nI g)), some (.inl (nI c)), some (.inr (.inl (N 3 ((nI (16 * se S (sgl S g) + c)).toNatClampNeg)))), none], [], (I, tk_so J 4 0 (tk_u1 N 1 r), R)) _ from ⟨vp_in_nI (by omega) (by omega), ?_⟩)
      rw [hq.at (by omega) (by omega) (by omega)]
      show tkDn tm_92 (47, [some (.inr (.inr (4, 0, 0))), some (.inr (.inr (1, b, 0))), some (.inl (nI g)), some (.inl (nI c)), some (.inr (.inl (q (se S (sgl S g)) c))), none], [], (I, tk_so J 4 0 (tk_u1 N 1 r), R)) _
      refine dn_run 3 (show tkDn tm_92 (51, [some (.inr (.inr (4, 0, 0))), some (.inr (.inr (1, b, 0))), some (.inl (nI g)), some (.inl (nI c)), some (.inr (.inl (q (se S (sgl S g)) c))), none], [.inl (lg_cmp (q (se S (sgl S g)) c) 0)], (I, tk_so J 4 0 (tk_u1 N 1 r), R)) _ from ?_)
      refine dn_if rfl rfl rfl (fun (c1 : 0 ≤ (lg_cmp (q (se S (sgl S g)) c) 0)) => ?_) (fun (c1 : ¬ 0 ≤ (lg_cmp (q (se S (sgl S g)) c) 0)) => ?_)
      · show tkDn tm_92 (76, [some (.inr (.inr (4, 0, 0))), some (.inr (.inr (1, b, 0))), some (.inl (nI g)), some (.inl (nI c)), some (.inr (.inl (q (se S (sgl S g)) c))), none], [], (I, tk_so J 4 0 (tk_u1 N 1 r), R)) _
        refine dn_run 2 (show tkDn tm_92 (23, [some (.inr (.inr (4, 0, 0))), some (.inr (.inr (1, b, 0))), some (.inl (nI g)), some (.inl ((nI c) + 1)), some (.inr (.inl (q (se S (sgl S g)) c))), none], [], (I, tk_so J 4 0 (tk_u1 N 1 r), R)) _ from ?_)
        rw [nI_1]
        exact ih (c + 1) r _ (by omega) (by rw [show ceI S q g (ceO S q e (sM S) g) (c + 1) = ceI S q g (ceO S q e (sM S) g) c from if_neg (Int64.not_lt.mpr ((lg_cmp_ge _ _).mp c1))]; exact hr)
      · show tkDn tm_92 (54, [some (.inr (.inr (4, 0, 0))), some (.inr (.inr (1, b, 0))), some (.inl (nI g)), some (.inl (nI c)), some (.inr (.inl (q (se S (sgl S g)) c))), none], [], (I, tk_so J 4 0 (tk_u1 N 1 r), R)) _
        have c1 := Int64.not_le.mp (fun z => c1 ((lg_cmp_ge _ _).mpr z))
        refine dn_run 4 (show tkDn tm_92 (60, [some (.inr (.inr (4, 0, 0))), some (.inr (.inr (1, b, 0))), some (.inl (nI g)), some (.inl (nI c)), some (.inr (.inl (q (se S (sgl S g)) c))), none], [.inl (nI g), .inr (.inr (1, b, 0)), .inr (.inr (4, 0, 1))], (I, tk_so J 4 0 (tk_u1 N 1 r), R)) _ from ?_)
        refine dn_call rfl rfl rfl rfl rfl (sN_giftFrom hP w hg ?_)
        show tkDn tm_92 (63, [some (.inr (.inr (4, 0, 0))), some (.inr (.inr (1, b, 0))), some (.inl (nI g)), some (.inl (nI c)), some (.inr (.inl (q (se S (sgl S g)) c))), none], [.inl (nI (sf S (sgl S g))), .inr (.inr (4, 0, 1))], (I, tk_so J 4 0 (tk_u1 N 1 r), R)) _
        refine dn_run 3 (show tkDn tm_92 (66, [some (.inr (.inr (4, 0, 0))), some (.inr (.inr (1, b, 0))), some (.inl (nI g)), some (.inl (nI c)), some (.inr (.inl (q (se S (sgl S g)) c))), none], [.inl (nI g), .inr (.inr (1, b, 0)), .inl (nI c), .inl (nI (sf S (sgl S g))), .inr (.inr (4, 0, 1))], (I, tk_so J 4 0 (tk_u1 N 1 r), R)) _ from ?_)
        refine dn_call rfl rfl rfl rfl rfl (sN_giftLow hP w hg ?_)
        show tkDn tm_92 (69, [some (.inr (.inr (4, 0, 0))), some (.inr (.inr (1, b, 0))), some (.inl (nI g)), some (.inl (nI c)), some (.inr (.inl (q (se S (sgl S g)) c))), none], [.inl (slo S (sgl S g)), .inl (nI c), .inl (nI (sf S (sgl S g))), .inr (.inr (4, 0, 1))], (I, tk_so J 4 0 (tk_u1 N 1 r), R)) _
        refine dn_run 3 (show tkDn tm_92 (73, [some (.inr (.inr (4, 0, 0))), some (.inr (.inr (1, b, 0))), some (.inl (nI g)), some (.inl (nI c)), some (.inr (.inl (q (se S (sgl S g)) c))), none], [.inr (.inl ((((slo S (sgl S g)) : Int32).toInt64) + (q (se S (sgl S g)) c))), .inl (nI c), .inl (nI (sf S (sgl S g))), .inr (.inr (4, 0, 1))], (I, tk_so J 4 0 (tk_u1 N 1 r), R)) _ from ?_)
        refine dn_call rfl rfl rfl rfl rfl (ss_lower_4_1 (by omega) (by omega) ?_)
        rw [tk_so_so, tk_so_same, tk_u1_u1, tk_u1_same]
        show tkDn tm_92 (76, [some (.inr (.inr (4, 0, 0))), some (.inr (.inr (1, b, 0))), some (.inl (nI g)), some (.inl (nI c)), some (.inr (.inl (q (se S (sgl S g)) c))), none], [], (I, tk_so J 4 0 (tk_u1 N 1 (low1 r (16 * (sf S (sgl S g)) + c) ((slo S (sgl S g)).toInt64 + q (se S (sgl S g)) c))), R)) _
        refine dn_run 2 (show tkDn tm_92 (23, [some (.inr (.inr (4, 0, 0))), some (.inr (.inr (1, b, 0))), some (.inl (nI g)), some (.inl ((nI c) + 1)), some (.inr (.inl (q (se S (sgl S g)) c))), none], [], (I, tk_so J 4 0 (tk_u1 N 1 (low1 r (16 * (sf S (sgl S g)) + c) ((slo S (sgl S g)).toInt64 + q (se S (sgl S g)) c))), R)) _ from ?_)
        rw [nI_1]
        exact ih (c + 1) _ _ (by omega) (by rw [show ceI S q g (ceO S q e (sM S) g) (c + 1) = lowM (ceI S q g (ceO S q e (sM S) g) c) (sf S (sgl S g)) c ((slo S (sgl S g)).toInt64 + q (se S (sgl S g)) c) from if_pos c1]; exact hr.low (by omega) (by omega) (by omega))
set_option maxRecDepth 8000 in
theorem sw_ce_out {I : tkI} {J : tkJ} {R : Nat → Nat} {Q : tkQ} {b : Nat} {S : tkS} (hP : NetP (I 1 b) S) (w : WF S) {e q : tkD} {N : Nat → Nat → Int64} (hq : RowP 16 (N 3) q) (hQ : ∀ r, RowP 16 r (ceO S q e (sM S) (sG S)) → Q none (I, tk_so J 4 0 (tk_u1 N 1 r), R)) : ∀ m g r oc o4, g + m = sG S → RowP 16 r (ceO S q e (sM S) g) → tkDn tm_92 (13, [some (.inr (.inr (4, 0, 0))), some (.inr (.inr (1, b, 0))), some (.inl (nI g)), oc, o4, none], [], (I, tk_so J 4 0 (tk_u1 N 1 r), R)) Q := by
  have hM16 := w.1
  have hL60 := w.2.1
  have hG6 := w.2.2.1
  intro m
  induction m with
  | zero =>
    intro g r oc o4 hg hr
    have hg : g = sG S := by omega
    rw [hg] at hr
    show tkDn tm_92 (13, [some (.inr (.inr (4, 0, 0))), some (.inr (.inr (1, b, 0))), some (.inl (nI g)), oc, o4, none], [], (I, tk_so J 4 0 (tk_u1 N 1 r), R)) _
    refine dn_run 2 (show tkDn tm_92 (15, [some (.inr (.inr (4, 0, 0))), some (.inr (.inr (1, b, 0))), some (.inl (nI g)), oc, o4, none], [.inr (.inr (1, b, 0)), .inl (nI g)], (I, tk_so J 4 0 (tk_u1 N 1 r), R)) _ from ?_)
    refine dn_call rfl rfl rfl rfl rfl (sN_giftCount hP ?_)
    show tkDn tm_92 (18, [some (.inr (.inr (4, 0, 0))), some (.inr (.inr (1, b, 0))), some (.inl (nI g)), oc, o4, none], [.inl (nI (sG S)), .inl (nI g)], (I, tk_so J 4 0 (tk_u1 N 1 r), R)) _
    refine dn_if rfl rfl rfl (fun (qq : (nI (sG S)) ≤ (nI g)) => ?_) (fun (qq : ¬ (nI (sG S)) ≤ (nI g)) => ?_)
    · show tkDn tm_92 (88, [some (.inr (.inr (4, 0, 0))), some (.inr (.inr (1, b, 0))), some (.inl (nI g)), oc, o4, none], [], (I, tk_so J 4 0 (tk_u1 N 1 r), R)) _
      refine dn_ret0 rfl rfl rfl rfl ?_
      exact hQ r hr
    · exact absurd (nI_le (by omega) (by omega)) qq
  | succ m ih =>
    intro g r oc o4 hg hr
    show tkDn tm_92 (13, [some (.inr (.inr (4, 0, 0))), some (.inr (.inr (1, b, 0))), some (.inl (nI g)), oc, o4, none], [], (I, tk_so J 4 0 (tk_u1 N 1 r), R)) _
    refine dn_run 2 (show tkDn tm_92 (15, [some (.inr (.inr (4, 0, 0))), some (.inr (.inr (1, b, 0))), some (.inl (nI g)), oc, o4, none], [.inr (.inr (1, b, 0)), .inl (nI g)], (I, tk_so J 4 0 (tk_u1 N 1 r), R)) _ from ?_)
    refine dn_call rfl rfl rfl rfl rfl (sN_giftCount hP ?_)
    show tkDn tm_92 (18, [some (.inr (.inr (4, 0, 0))), some (.inr (.inr (1, b, 0))), some (.inl (nI g)), oc, o4, none], [.inl (nI (sG S)), .inl (nI g)], (I, tk_so J 4 0 (tk_u1 N 1 r), R)) _
    refine dn_if rfl rfl rfl (fun (qq : (nI (sG S)) ≤ (nI g)) => ?_) (fun (qq : ¬ (nI (sG S)) ≤ (nI g)) => ?_)
    · exact absurd qq (nI_ge (by omega) (by omega))
    · show tkDn tm_92 (21, [some (.inr (.inr (4, 0, 0))), some (.inr (.inr (1, b, 0))), some (.inl (nI g)), oc, o4, none], [], (I, tk_so J 4 0 (tk_u1 N 1 r), R)) _
      refine dn_run 2 (show tkDn tm_92 (23, [some (.inr (.inr (4, 0, 0))), some (.inr (.inr (1, b, 0))), some (.inl (nI g)), some (.inl 0), o4, none], [], (I, tk_so J 4 0 (tk_u1 N 1 r), R)) _ from ?_)
      refine sw_ce_in hP w hq (by omega) (fun r2 o4x hr2 => ?_) (sM S) 0 r _ (Nat.zero_add _) hr
      show tkDn tm_92 (82, [some (.inr (.inr (4, 0, 0))), some (.inr (.inr (1, b, 0))), some (.inl (nI g)), some (.inl (nI (sM S))), o4x, none], [], (I, tk_so J 4 0 (tk_u1 N 1 r2), R)) _
      refine dn_run 2 (show tkDn tm_92 (13, [some (.inr (.inr (4, 0, 0))), some (.inr (.inr (1, b, 0))), some (.inl ((nI g) + 1)), some (.inl (nI (sM S))), o4x, none], [], (I, tk_so J 4 0 (tk_u1 N 1 r2), R)) _ from ?_)
      rw [nI_1]
      exact ih (g + 1) r2 _ _ (by omega) hr2
set_option maxRecDepth 8000 in
theorem sw_carryEdges {I : tkI} {J : tkJ} {R : Nat → Nat} {Q : tkQ} {b : Nat} {S : tkS} (hP : NetP (I 1 b) S) (w : WF S) {e : tkD} {N : Nat → Nat → Int64} (he : RowP 16 (N 1) e) (hQ : ∀ N2, RowP 16 (N2 1) (ceO S e e (sM S) (sG S)) → (∀ s, s ≠ 1 → s ≠ 3 → N2 s = N s) → Q none (I, tk_so J 4 0 N2, R)) : tkDn tm_92 (0, [some (.inr (.inr (4, 0, 0))), some (.inr (.inr (1, b, 0))), none, none, none, none], [], (I, tk_so J 4 0 N, R)) Q := by
  refine dn_run 4 (show tkDn tm_92 (8, [some (.inr (.inr (4, 0, 0))), some (.inr (.inr (1, b, 0))), none, none, none, none], [.inr (.inr (4, 0, 3)), .inr (.inr (4, 0, 1))], (I, tk_so J 4 0 N, R)) _ from ?_)
  refine dn_call rfl rfl rfl rfl rfl (sw_copy_1_3 (fun r hr => ?_))
  rw [tk_so_so, tk_so_same]
  rw [tk_so_same] at hr
  show tkDn tm_92 (11, [some (.inr (.inr (4, 0, 0))), some (.inr (.inr (1, b, 0))), none, none, none, none], [], (I, tk_so J 4 0 (tk_u1 N 3 r), R)) _
  refine dn_run 2 (show tkDn tm_92 (13, [some (.inr (.inr (4, 0, 0))), some (.inr (.inr (1, b, 0))), some (.inl 0), none, none, none], [], (I, tk_so J 4 0 (tk_u1 N 3 r), R)) _ from ?_)
  have key := sw_ce_out (J := J) (N := tk_u1 N 3 r) (R := R) (Q := Q) (e := e) (q := e) hP w (by rw [tk_u1_same]; exact he.cp hr) (fun r2 hr2 => hQ _ (by rw [tk_u1_same]; exact hr2) (fun s h1 h3 => by rw [tk_u1_ne h1, tk_u1_ne h3])) (sG S) 0 (N 1) none none (Nat.zero_add _) he
  rw [show tk_u1 (tk_u1 N 3 r) 1 (N 1) = tk_u1 N 3 r by rw [show N 1 = tk_u1 N 3 r 1 from (tk_u1_ne (by decide)).symm, tk_u1_id]] at key
  exact key
set_option maxRecDepth 8000 in
theorem sw_cg_in {I : tkI} {J : tkJ} {R : Nat → Nat} {Q : tkQ} {b : Nat} {S : tkS} (hP : NetP (I 1 b) S) (w : WF S) {u v : tkD} {N : Nat → Nat → Int64} (hu : WRow (N 6) u) {g : Nat} (hg : g < sG S) (hK : ∀ r o4 o6, WRow r (cgI S u g (cgO S u v (sG S) g) (sG S)) → tkDn tm_93 (102, [some (.inr (.inr (4, 0, 0))), some (.inr (.inr (1, b, 0))), some (.inl (nI g)), some (.inl (nI (sG S))), o4, none, o6], [], (I, tk_so J 4 0 (tk_u1 N 4 r), R)) Q) : ∀ m c r o4 o6, c + m = sG S → WRow r (cgI S u g (cgO S u v (sG S) g) c) → tkDn tm_93 (23, [some (.inr (.inr (4, 0, 0))), some (.inr (.inr (1, b, 0))), some (.inl (nI g)), some (.inl (nI c)), o4, none, o6], [], (I, tk_so J 4 0 (tk_u1 N 4 r), R)) Q := by
  have hM16 := w.1
  have hL60 := w.2.1
  have hG6 := w.2.2.1
  have hgl := w.gl hg
  have hf := w.fM hgl
  have he_ := w.eM hgl
  intro m
  induction m with
  | zero =>
    intro c r o4 o6 hc hr
    have hc : c = sG S := by omega
    subst hc
    show tkDn tm_93 (23, [some (.inr (.inr (4, 0, 0))), some (.inr (.inr (1, b, 0))), some (.inl (nI g)), some (.inl (nI (sG S))), o4, none, o6], [], (I, tk_so J 4 0 (tk_u1 N 4 r), R)) _
    refine dn_run 2 (show tkDn tm_93 (25, [some (.inr (.inr (4, 0, 0))), some (.inr (.inr (1, b, 0))), some (.inl (nI g)), some (.inl (nI (sG S))), o4, none, o6], [.inr (.inr (1, b, 0)), .inl (nI (sG S))], (I, tk_so J 4 0 (tk_u1 N 4 r), R)) _ from ?_)
    refine dn_call rfl rfl rfl rfl rfl (sN_giftCount hP ?_)
    show tkDn tm_93 (28, [some (.inr (.inr (4, 0, 0))), some (.inr (.inr (1, b, 0))), some (.inl (nI g)), some (.inl (nI (sG S))), o4, none, o6], [.inl (nI (sG S)), .inl (nI (sG S))], (I, tk_so J 4 0 (tk_u1 N 4 r), R)) _
    refine dn_if rfl rfl rfl (fun (qq : (nI (sG S)) ≤ (nI (sG S))) => ?_) (fun (qq : ¬ (nI (sG S)) ≤ (nI (sG S))) => ?_)
    · show tkDn tm_93 (102, [some (.inr (.inr (4, 0, 0))), some (.inr (.inr (1, b, 0))), some (.inl (nI g)), some (.inl (nI (sG S))), o4, none, o6], [], (I, tk_so J 4 0 (tk_u1 N 4 r), R)) _
      exact hK r _ _ hr
    · exact absurd (nI_le (by omega) (by omega)) qq
  | succ m ih =>
    intro c r o4 o6 hc hr
    show tkDn tm_93 (23, [some (.inr (.inr (4, 0, 0))), some (.inr (.inr (1, b, 0))), some (.inl (nI g)), some (.inl (nI c)), o4, none, o6], [], (I, tk_so J 4 0 (tk_u1 N 4 r), R)) _
    refine dn_run 2 (show tkDn tm_93 (25, [some (.inr (.inr (4, 0, 0))), some (.inr (.inr (1, b, 0))), some (.inl (nI g)), some (.inl (nI c)), o4, none, o6], [.inr (.inr (1, b, 0)), .inl (nI c)], (I, tk_so J 4 0 (tk_u1 N 4 r), R)) _ from ?_)
    refine dn_call rfl rfl rfl rfl rfl (sN_giftCount hP ?_)
    show tkDn tm_93 (28, [some (.inr (.inr (4, 0, 0))), some (.inr (.inr (1, b, 0))), some (.inl (nI g)), some (.inl (nI c)), o4, none, o6], [.inl (nI (sG S)), .inl (nI c)], (I, tk_so J 4 0 (tk_u1 N 4 r), R)) _
    refine dn_if rfl rfl rfl (fun (qq : (nI (sG S)) ≤ (nI c)) => ?_) (fun (qq : ¬ (nI (sG S)) ≤ (nI c)) => ?_)
    · exact absurd qq (nI_ge (by omega) (by omega))
    · show tkDn tm_93 (31, [some (.inr (.inr (4, 0, 0))), some (.inr (.inr (1, b, 0))), some (.inl (nI g)), some (.inl (nI c)), o4, none, o6], [], (I, tk_so J 4 0 (tk_u1 N 4 r), R)) _
      refine dn_run 4 (show tkDn tm_93 (37, [some (.inr (.inr (4, 0, 0))), some (.inr (.inr (1, b, 0))), some (.inl (nI g)), some (.inl (nI c)), o4, none, o6], [.inl (nI g), .inr (.inr (1, b, 0)), .inr (.inr (4, 0, 6))], (I, tk_so J 4 0 (tk_u1 N 4 r), R)) _ from ?_)
      refine dn_call rfl rfl rfl rfl rfl (sN_giftTo hP w hg ?_)
      show tkDn tm_93 (40, [some (.inr (.inr (4, 0, 0))), some (.inr (.inr (1, b, 0))), some (.inl (nI g)), some (.inl (nI c)), o4, none, o6], [.inl (nI (se S (sgl S g))), .inr (.inr (4, 0, 6))], (I, tk_so J 4 0 (tk_u1 N 4 r), R)) _
      refine dn_run 1 (show tkDn tm_93 (41, [some (.inr (.inr (4, 0, 0))), some (.inr (.inr (1, b, 0))), some (.inl (nI g)), some (.inl (nI c)), o4, none, o6], [.inl (nI c), .inl (nI (se S (sgl S g))), .inr (.inr (4, 0, 6))], (I, tk_so J 4 0 (tk_u1 N 4 r), R)) _ from ?_)
      refine dn_call rfl rfl rfl rfl rfl (sw_cell ?_)
      show tkDn tm_93 (44, [some (.inr (.inr (4, 0, 0))), some (.inr (.inr (1, b, 0))), some (.inl (nI g)), some (.inl (nI c)), o4, none, o6], [.inl (nI (6 * se S (sgl S g) + c)), .inr (.inr (4, 0, 6))], (I, tk_so J 4 0 (tk_u1 N 4 r), R)) _
      refine dn_run 2 (show (vp_in (nI (6 * se S (sgl S g) + c)) 96) ∧ tkDn tm_93 (47, [some (.inr (.inr (4, 0, 0))), some (.inr (.inr (1, b, 0))), some (.inl (nI g)), some (.inl (nI c)), some (.inr (.inl (N 6 ((nI (6 * se S (sgl S g) + c)).toNatClampNeg)))), none, o6], [], (I, tk_so J 4 0 (tk_u1 N 4 r), R)) _ from ⟨vp_in_nI (by omega) (by omega), ?_⟩)
      rw [hu.at (by omega) (by omega)]
      show tkDn tm_93 (47, [some (.inr (.inr (4, 0, 0))), some (.inr (.inr (1, b, 0))), some (.inl (nI g)), some (.inl (nI c)), some (.inr (.inl (u (se S (sgl S g)) c))), none, o6], [], (I, tk_so J 4 0 (tk_u1 N 4 r), R)) _
      refine dn_run 2 (show tkDn tm_93 (49, [some (.inr (.inr (4, 0, 0))), some (.inr (.inr (1, b, 0))), some (.inl (nI g)), some (.inl (nI c)), some (.inr (.inl (u (se S (sgl S g)) c))), none, o6], [.inl (nI g), .inl (nI c)], (I, tk_so J 4 0 (tk_u1 N 4 r), R)) _ from ?_)
      refine dn_if rfl rfl rfl (fun (c1 : (nI c) = (nI g)) => ?_) (fun (c1 : ¬ (nI c) = (nI g)) => ?_)
      · show tkDn tm_93 (96, [some (.inr (.inr (4, 0, 0))), some (.inr (.inr (1, b, 0))), some (.inl (nI g)), some (.inl (nI c)), some (.inr (.inl (u (se S (sgl S g)) c))), none, o6], [], (I, tk_so J 4 0 (tk_u1 N 4 r), R)) _
        refine dn_run 2 (show tkDn tm_93 (23, [some (.inr (.inr (4, 0, 0))), some (.inr (.inr (1, b, 0))), some (.inl (nI g)), some (.inl ((nI c) + 1)), some (.inr (.inl (u (se S (sgl S g)) c))), none, o6], [], (I, tk_so J 4 0 (tk_u1 N 4 r), R)) _ from ?_)
        rw [nI_1]
        exact ih (c + 1) r _ _ (by omega) (by rw [show cgI S u g (cgO S u v (sG S) g) (c + 1) = cgI S u g (cgO S u v (sG S) g) c from if_neg (fun q => q.1 ((nI_eq (by omega) (by omega)).mp c1))]; exact hr)
      · show tkDn tm_93 (52, [some (.inr (.inr (4, 0, 0))), some (.inr (.inr (1, b, 0))), some (.inl (nI g)), some (.inl (nI c)), some (.inr (.inl (u (se S (sgl S g)) c))), none, o6], [], (I, tk_so J 4 0 (tk_u1 N 4 r), R)) _
        refine dn_run 3 (show tkDn tm_93 (56, [some (.inr (.inr (4, 0, 0))), some (.inr (.inr (1, b, 0))), some (.inl (nI g)), some (.inl (nI c)), some (.inr (.inl (u (se S (sgl S g)) c))), none, o6], [.inl (lg_cmp (u (se S (sgl S g)) c) 0)], (I, tk_so J 4 0 (tk_u1 N 4 r), R)) _ from ?_)
        refine dn_if rfl rfl rfl (fun (c2 : 0 ≤ (lg_cmp (u (se S (sgl S g)) c) 0)) => ?_) (fun (c2 : ¬ 0 ≤ (lg_cmp (u (se S (sgl S g)) c) 0)) => ?_)
        · show tkDn tm_93 (96, [some (.inr (.inr (4, 0, 0))), some (.inr (.inr (1, b, 0))), some (.inl (nI g)), some (.inl (nI c)), some (.inr (.inl (u (se S (sgl S g)) c))), none, o6], [], (I, tk_so J 4 0 (tk_u1 N 4 r), R)) _
          refine dn_run 2 (show tkDn tm_93 (23, [some (.inr (.inr (4, 0, 0))), some (.inr (.inr (1, b, 0))), some (.inl (nI g)), some (.inl ((nI c) + 1)), some (.inr (.inl (u (se S (sgl S g)) c))), none, o6], [], (I, tk_so J 4 0 (tk_u1 N 4 r), R)) _ from ?_)
          rw [nI_1]
          exact ih (c + 1) r _ _ (by omega) (by rw [show cgI S u g (cgO S u v (sG S) g) (c + 1) = cgI S u g (cgO S u v (sG S) g) c from if_neg (fun q => absurd q.2 (Int64.not_lt.mpr ((lg_cmp_ge _ _).mp c2)))]; exact hr)
        · show tkDn tm_93 (59, [some (.inr (.inr (4, 0, 0))), some (.inr (.inr (1, b, 0))), some (.inl (nI g)), some (.inl (nI c)), some (.inr (.inl (u (se S (sgl S g)) c))), none, o6], [], (I, tk_so J 4 0 (tk_u1 N 4 r), R)) _
          have c2 := Int64.not_le.mp (fun z => c2 ((lg_cmp_ge _ _).mpr z))
          refine dn_run 2 (show tkDn tm_93 (61, [some (.inr (.inr (4, 0, 0))), some (.inr (.inr (1, b, 0))), some (.inl (nI g)), some (.inl (nI c)), some (.inr (.inl (u (se S (sgl S g)) c))), none, o6], [.inl (nI g), .inr (.inr (1, b, 0))], (I, tk_so J 4 0 (tk_u1 N 4 r), R)) _ from ?_)
          refine dn_call rfl rfl rfl rfl rfl (sN_giftFrom hP w hg ?_)
          show tkDn tm_93 (64, [some (.inr (.inr (4, 0, 0))), some (.inr (.inr (1, b, 0))), some (.inl (nI g)), some (.inl (nI c)), some (.inr (.inl (u (se S (sgl S g)) c))), none, o6], [.inl (nI (sf S (sgl S g)))], (I, tk_so J 4 0 (tk_u1 N 4 r), R)) _
          refine dn_run 1 (show tkDn tm_93 (65, [some (.inr (.inr (4, 0, 0))), some (.inr (.inr (1, b, 0))), some (.inl (nI g)), some (.inl (nI c)), some (.inr (.inl (u (se S (sgl S g)) c))), none, o6], [.inl (nI c), .inl (nI (sf S (sgl S g)))], (I, tk_so J 4 0 (tk_u1 N 4 r), R)) _ from ?_)
          refine dn_call rfl rfl rfl rfl rfl (sw_cell ?_)
          show tkDn tm_93 (68, [some (.inr (.inr (4, 0, 0))), some (.inr (.inr (1, b, 0))), some (.inl (nI g)), some (.inl (nI c)), some (.inr (.inl (u (se S (sgl S g)) c))), none, o6], [.inl (nI (6 * sf S (sgl S g) + c))], (I, tk_so J 4 0 (tk_u1 N 4 r), R)) _
          refine dn_run 10 (show (vp_in (nI (6 * sf S (sgl S g) + c)) 96) ∧ tkDn tm_93 (85, [some (.inr (.inr (4, 0, 0))), some (.inr (.inr (1, b, 0))), some (.inl (nI g)), some (.inl (nI c)), some (.inr (.inl (u (se S (sgl S g)) c))), none, some (.inl (nI (6 * sf S (sgl S g) + c)))], [.inl (nI g), .inr (.inr (1, b, 0)), .inr (.inl (r ((nI (6 * sf S (sgl S g) + c)).toNatClampNeg))), .inl (nI (6 * sf S (sgl S g) + c)), .inr (.inr (4, 0, 4))], (I, tk_so J 4 0 (tk_u1 N 4 r), R)) _ from ⟨vp_in_nI (by omega) (by omega), ?_⟩)
          rw [hr.at (by omega) (by omega)]
          show tkDn tm_93 (85, [some (.inr (.inr (4, 0, 0))), some (.inr (.inr (1, b, 0))), some (.inl (nI g)), some (.inl (nI c)), some (.inr (.inl (u (se S (sgl S g)) c))), none, some (.inl (nI (6 * sf S (sgl S g) + c)))], [.inl (nI g), .inr (.inr (1, b, 0)), .inr (.inl (cgI S u g (cgO S u v (sG S) g) c (sf S (sgl S g)) c)), .inl (nI (6 * sf S (sgl S g) + c)), .inr (.inr (4, 0, 4))], (I, tk_so J 4 0 (tk_u1 N 4 r), R)) _
          refine dn_call rfl rfl rfl rfl rfl (sN_giftLow hP w hg ?_)
          show tkDn tm_93 (88, [some (.inr (.inr (4, 0, 0))), some (.inr (.inr (1, b, 0))), some (.inl (nI g)), some (.inl (nI c)), some (.inr (.inl (u (se S (sgl S g)) c))), none, some (.inl (nI (6 * sf S (sgl S g) + c)))], [.inl (slo S (sgl S g)), .inr (.inl (cgI S u g (cgO S u v (sG S) g) c (sf S (sgl S g)) c)), .inl (nI (6 * sf S (sgl S g) + c)), .inr (.inr (4, 0, 4))], (I, tk_so J 4 0 (tk_u1 N 4 r), R)) _
          refine dn_run 7 (show (vp_in (nI (6 * sf S (sgl S g) + c)) 96) ∧ tkDn tm_93 (23, [some (.inr (.inr (4, 0, 0))), some (.inr (.inr (1, b, 0))), some (.inl (nI g)), some (.inl ((nI c) + 1)), some (.inr (.inl (u (se S (sgl S g)) c))), none, some (.inl (nI (6 * sf S (sgl S g) + c)))], [], (I, tk_so (tk_so J 4 0 (tk_u1 N 4 r)) 4 0 (tk_u2 (tk_u1 N 4 r) 4 ((nI (6 * sf S (sgl S g) + c)).toNatClampNeg) (if ((((slo S (sgl S g)) : Int32).toInt64) + (u (se S (sgl S g)) c)) < (cgI S u g (cgO S u v (sG S) g) c (sf S (sgl S g)) c) then ((((slo S (sgl S g)) : Int32).toInt64) + (u (se S (sgl S g)) c)) else (cgI S u g (cgO S u v (sG S) g) c (sf S (sgl S g)) c))), R)) _ from ⟨vp_in_nI (by omega) (by omega), ?_⟩)
          rw [tk_so_so]
          rw [tk_u2_u1, nI_clamp (show 6 * sf S (sgl S g) + c < 2 ^ 31 by omega), nI_1]
          refine ih (c + 1) _ _ _ (by omega) ?_
          rw [show cgI S u g (cgO S u v (sG S) g) (c + 1) = upM (cgI S u g (cgO S u v (sG S) g) c) (sf S (sgl S g)) c (if (slo S (sgl S g)).toInt64 + u (se S (sgl S g)) c < cgI S u g (cgO S u v (sG S) g) c (sf S (sgl S g)) c then (slo S (sgl S g)).toInt64 + u (se S (sgl S g)) c else cgI S u g (cgO S u v (sG S) g) c (sf S (sgl S g)) c) from if_pos ⟨fun z => c1 (by rw [z]), c2⟩]
          exact hr.put (by omega)
set_option maxRecDepth 8000 in
theorem sw_cg_out {I : tkI} {J : tkJ} {R : Nat → Nat} {Q : tkQ} {b : Nat} {S : tkS} (hP : NetP (I 1 b) S) (w : WF S) {u v : tkD} {N : Nat → Nat → Int64} (hu : WRow (N 6) u) (hQ : ∀ r, WRow r (cgO S u v (sG S) (sG S)) → Q none (I, tk_so J 4 0 (tk_u1 N 4 r), R)) : ∀ m g r oc o4 o6, g + m = sG S → WRow r (cgO S u v (sG S) g) → tkDn tm_93 (13, [some (.inr (.inr (4, 0, 0))), some (.inr (.inr (1, b, 0))), some (.inl (nI g)), oc, o4, none, o6], [], (I, tk_so J 4 0 (tk_u1 N 4 r), R)) Q := by
  have hM16 := w.1
  have hL60 := w.2.1
  have hG6 := w.2.2.1
  intro m
  induction m with
  | zero =>
    intro g r oc o4 o6 hg hr
    have hg : g = sG S := by omega
    rw [hg] at hr
    show tkDn tm_93 (13, [some (.inr (.inr (4, 0, 0))), some (.inr (.inr (1, b, 0))), some (.inl (nI g)), oc, o4, none, o6], [], (I, tk_so J 4 0 (tk_u1 N 4 r), R)) _
    refine dn_run 2 (show tkDn tm_93 (15, [some (.inr (.inr (4, 0, 0))), some (.inr (.inr (1, b, 0))), some (.inl (nI g)), oc, o4, none, o6], [.inr (.inr (1, b, 0)), .inl (nI g)], (I, tk_so J 4 0 (tk_u1 N 4 r), R)) _ from ?_)
    refine dn_call rfl rfl rfl rfl rfl (sN_giftCount hP ?_)
    show tkDn tm_93 (18, [some (.inr (.inr (4, 0, 0))), some (.inr (.inr (1, b, 0))), some (.inl (nI g)), oc, o4, none, o6], [.inl (nI (sG S)), .inl (nI g)], (I, tk_so J 4 0 (tk_u1 N 4 r), R)) _
    refine dn_if rfl rfl rfl (fun (qq : (nI (sG S)) ≤ (nI g)) => ?_) (fun (qq : ¬ (nI (sG S)) ≤ (nI g)) => ?_)
    · show tkDn tm_93 (108, [some (.inr (.inr (4, 0, 0))), some (.inr (.inr (1, b, 0))), some (.inl (nI g)), oc, o4, none, o6], [], (I, tk_so J 4 0 (tk_u1 N 4 r), R)) _
      refine dn_ret0 rfl rfl rfl rfl ?_
      exact hQ r hr
    · exact absurd (nI_le (by omega) (by omega)) qq
  | succ m ih =>
    intro g r oc o4 o6 hg hr
    show tkDn tm_93 (13, [some (.inr (.inr (4, 0, 0))), some (.inr (.inr (1, b, 0))), some (.inl (nI g)), oc, o4, none, o6], [], (I, tk_so J 4 0 (tk_u1 N 4 r), R)) _
    refine dn_run 2 (show tkDn tm_93 (15, [some (.inr (.inr (4, 0, 0))), some (.inr (.inr (1, b, 0))), some (.inl (nI g)), oc, o4, none, o6], [.inr (.inr (1, b, 0)), .inl (nI g)], (I, tk_so J 4 0 (tk_u1 N 4 r), R)) _ from ?_)
    refine dn_call rfl rfl rfl rfl rfl (sN_giftCount hP ?_)
    show tkDn tm_93 (18, [some (.inr (.inr (4, 0, 0))), some (.inr (.inr (1, b, 0))), some (.inl (nI g)), oc, o4, none, o6], [.inl (nI (sG S)), .inl (nI g)], (I, tk_so J 4 0 (tk_u1 N 4 r), R)) _
    refine dn_if rfl rfl rfl (fun (qq : (nI (sG S)) ≤ (nI g)) => ?_) (fun (qq : ¬ (nI (sG S)) ≤ (nI g)) => ?_)
    · exact absurd qq (nI_ge (by omega) (by omega))
    · show tkDn tm_93 (21, [some (.inr (.inr (4, 0, 0))), some (.inr (.inr (1, b, 0))), some (.inl (nI g)), oc, o4, none, o6], [], (I, tk_so J 4 0 (tk_u1 N 4 r), R)) _
      refine dn_run 2 (show tkDn tm_93 (23, [some (.inr (.inr (4, 0, 0))), some (.inr (.inr (1, b, 0))), some (.inl (nI g)), some (.inl 0), o4, none, o6], [], (I, tk_so J 4 0 (tk_u1 N 4 r), R)) _ from ?_)
      refine sw_cg_in hP w hu (by omega) (fun r2 o4x o6x hr2 => ?_) (sG S) 0 r _ _ (Nat.zero_add _) hr
      show tkDn tm_93 (102, [some (.inr (.inr (4, 0, 0))), some (.inr (.inr (1, b, 0))), some (.inl (nI g)), some (.inl (nI (sG S))), o4x, none, o6x], [], (I, tk_so J 4 0 (tk_u1 N 4 r2), R)) _
      refine dn_run 2 (show tkDn tm_93 (13, [some (.inr (.inr (4, 0, 0))), some (.inr (.inr (1, b, 0))), some (.inl ((nI g) + 1)), some (.inl (nI (sG S))), o4x, none, o6x], [], (I, tk_so J 4 0 (tk_u1 N 4 r2), R)) _ from ?_)
      rw [nI_1]
      exact ih (g + 1) r2 _ _ _ (by omega) hr2
set_option maxRecDepth 8000 in
theorem sw_carryWaits {I : tkI} {J : tkJ} {R : Nat → Nat} {Q : tkQ} {b : Nat} {S : tkS} (hP : NetP (I 1 b) S) (w : WF S) {v : tkD} {N : Nat → Nat → Int64} (hv : WRow (N 4) v) (hQ : ∀ N2, WRow (N2 4) (cgO S v v (sG S) (sG S)) → (∀ s, s ≠ 4 → s ≠ 6 → N2 s = N s) → Q none (I, tk_so J 4 0 N2, R)) : tkDn tm_93 (0, [some (.inr (.inr (4, 0, 0))), some (.inr (.inr (1, b, 0))), none, none, none, none, none], [], (I, tk_so J 4 0 N, R)) Q := by
  refine dn_run 4 (show tkDn tm_93 (8, [some (.inr (.inr (4, 0, 0))), some (.inr (.inr (1, b, 0))), none, none, none, none, none], [.inr (.inr (4, 0, 6)), .inr (.inr (4, 0, 4))], (I, tk_so J 4 0 N, R)) _ from ?_)
  refine dn_call rfl rfl rfl rfl rfl (sw_copy_4_6 (fun r hr => ?_))
  rw [tk_so_so, tk_so_same]
  rw [tk_so_same] at hr
  show tkDn tm_93 (11, [some (.inr (.inr (4, 0, 0))), some (.inr (.inr (1, b, 0))), none, none, none, none, none], [], (I, tk_so J 4 0 (tk_u1 N 6 r), R)) _
  refine dn_run 2 (show tkDn tm_93 (13, [some (.inr (.inr (4, 0, 0))), some (.inr (.inr (1, b, 0))), some (.inl 0), none, none, none, none], [], (I, tk_so J 4 0 (tk_u1 N 6 r), R)) _ from ?_)
  have key := sw_cg_out (J := J) (N := tk_u1 N 6 r) (R := R) (Q := Q) (u := v) (v := v) hP w (by rw [tk_u1_same]; exact hv.cp hr) (fun r2 hr2 => hQ _ (by rw [tk_u1_same]; exact hr2) (fun s h1 h3 => by rw [tk_u1_ne h1, tk_u1_ne h3])) (sG S) 0 (N 4) none none none (Nat.zero_add _) hv
  rw [show tk_u1 (tk_u1 N 6 r) 4 (N 4) = tk_u1 N 6 r by rw [show N 4 = tk_u1 N 6 r 4 from (tk_u1_ne (by decide)).symm, tk_u1_id]] at key
  exact key
set_option maxRecDepth 8000 in
theorem sw_hr_in {I : tkI} {J : tkJ} {R : Nat → Nat} {Q : tkQ} {b : Nat} {S : tkS} (hP : NetP (I 1 b) S) (w : WF S) {e v : tkD} {N : Nat → Nat → Int64} (hv : WRow (N 4) v) {g : Nat} (hg : g < sG S) (hK : ∀ r , RowP 16 r (hrI S v g (hrO S v e (sM S) g) (sM S)) → tkDn tm_94 (60, [some (.inr (.inr (4, 0, 0))), some (.inr (.inr (1, b, 0))), some (.inl (nI g)), some (.inl (nI (sM S)))], [], (I, tk_so J 4 0 (tk_u1 N 3 r), R)) Q) : ∀ m c r , c + m = sM S → RowP 16 r (hrI S v g (hrO S v e (sM S) g) c) → tkDn tm_94 (23, [some (.inr (.inr (4, 0, 0))), some (.inr (.inr (1, b, 0))), some (.inl (nI g)), some (.inl (nI c))], [], (I, tk_so J 4 0 (tk_u1 N 3 r), R)) Q := by
  have hM16 := w.1
  have hL60 := w.2.1
  have hG6 := w.2.2.1
  have hgl := w.gl hg
  have hf := w.fM hgl
  have he_ := w.eM hgl
  intro m
  induction m with
  | zero =>
    intro c r  hc hr
    have hc : c = sM S := by omega
    subst hc
    show tkDn tm_94 (23, [some (.inr (.inr (4, 0, 0))), some (.inr (.inr (1, b, 0))), some (.inl (nI g)), some (.inl (nI (sM S)))], [], (I, tk_so J 4 0 (tk_u1 N 3 r), R)) _
    refine dn_run 2 (show tkDn tm_94 (25, [some (.inr (.inr (4, 0, 0))), some (.inr (.inr (1, b, 0))), some (.inl (nI g)), some (.inl (nI (sM S)))], [.inr (.inr (1, b, 0)), .inl (nI (sM S))], (I, tk_so J 4 0 (tk_u1 N 3 r), R)) _ from ?_)
    refine dn_call rfl rfl rfl rfl rfl (sN_momentCount hP ?_)
    show tkDn tm_94 (28, [some (.inr (.inr (4, 0, 0))), some (.inr (.inr (1, b, 0))), some (.inl (nI g)), some (.inl (nI (sM S)))], [.inl (nI (sM S)), .inl (nI (sM S))], (I, tk_so J 4 0 (tk_u1 N 3 r), R)) _
    refine dn_if rfl rfl rfl (fun (qq : (nI (sM S)) ≤ (nI (sM S))) => ?_) (fun (qq : ¬ (nI (sM S)) ≤ (nI (sM S))) => ?_)
    · show tkDn tm_94 (60, [some (.inr (.inr (4, 0, 0))), some (.inr (.inr (1, b, 0))), some (.inl (nI g)), some (.inl (nI (sM S)))], [], (I, tk_so J 4 0 (tk_u1 N 3 r), R)) _
      exact hK r  hr
    · exact absurd (nI_le (by omega) (by omega)) qq
  | succ m ih =>
    intro c r  hc hr
    show tkDn tm_94 (23, [some (.inr (.inr (4, 0, 0))), some (.inr (.inr (1, b, 0))), some (.inl (nI g)), some (.inl (nI c))], [], (I, tk_so J 4 0 (tk_u1 N 3 r), R)) _
    refine dn_run 2 (show tkDn tm_94 (25, [some (.inr (.inr (4, 0, 0))), some (.inr (.inr (1, b, 0))), some (.inl (nI g)), some (.inl (nI c))], [.inr (.inr (1, b, 0)), .inl (nI c)], (I, tk_so J 4 0 (tk_u1 N 3 r), R)) _ from ?_)
    refine dn_call rfl rfl rfl rfl rfl (sN_momentCount hP ?_)
    show tkDn tm_94 (28, [some (.inr (.inr (4, 0, 0))), some (.inr (.inr (1, b, 0))), some (.inl (nI g)), some (.inl (nI c))], [.inl (nI (sM S)), .inl (nI c)], (I, tk_so J 4 0 (tk_u1 N 3 r), R)) _
    refine dn_if rfl rfl rfl (fun (qq : (nI (sM S)) ≤ (nI c)) => ?_) (fun (qq : ¬ (nI (sM S)) ≤ (nI c)) => ?_)
    · exact absurd qq (nI_ge (by omega) (by omega))
    · show tkDn tm_94 (31, [some (.inr (.inr (4, 0, 0))), some (.inr (.inr (1, b, 0))), some (.inl (nI g)), some (.inl (nI c))], [], (I, tk_so J 4 0 (tk_u1 N 3 r), R)) _
      refine dn_run 5 (show tkDn tm_94 (38, [some (.inr (.inr (4, 0, 0))), some (.inr (.inr (1, b, 0))), some (.inl (nI g)), some (.inl (nI c))], [.inl (nI g), .inr (.inr (1, b, 0)), .inl (nI c), .inr (.inr (4, 0, 3))], (I, tk_so J 4 0 (tk_u1 N 3 r), R)) _ from ?_)
      refine dn_call rfl rfl rfl rfl rfl (sN_giftFrom hP w hg ?_)
      show tkDn tm_94 (41, [some (.inr (.inr (4, 0, 0))), some (.inr (.inr (1, b, 0))), some (.inl (nI g)), some (.inl (nI c))], [.inl (nI (sf S (sgl S g))), .inl (nI c), .inr (.inr (4, 0, 3))], (I, tk_so J 4 0 (tk_u1 N 3 r), R)) _
      refine dn_run 4 (show tkDn tm_94 (47, [some (.inr (.inr (4, 0, 0))), some (.inr (.inr (1, b, 0))), some (.inl (nI g)), some (.inl (nI c))], [.inl (nI g), .inl (nI c), .inr (.inr (4, 0, 4)), .inl (nI (sf S (sgl S g))), .inl (nI c), .inr (.inr (4, 0, 3))], (I, tk_so J 4 0 (tk_u1 N 3 r), R)) _ from ?_)
      refine dn_call rfl rfl rfl rfl rfl (sw_cell ?_)
      show tkDn tm_94 (50, [some (.inr (.inr (4, 0, 0))), some (.inr (.inr (1, b, 0))), some (.inl (nI g)), some (.inl (nI c))], [.inl (nI (6 * c + g)), .inr (.inr (4, 0, 4)), .inl (nI (sf S (sgl S g))), .inl (nI c), .inr (.inr (4, 0, 3))], (I, tk_so J 4 0 (tk_u1 N 3 r), R)) _
      refine dn_run 1 (show (vp_in (nI (6 * c + g)) 96) ∧ tkDn tm_94 (51, [some (.inr (.inr (4, 0, 0))), some (.inr (.inr (1, b, 0))), some (.inl (nI g)), some (.inl (nI c))], [.inr (.inl (N 4 ((nI (6 * c + g)).toNatClampNeg))), .inl (nI (sf S (sgl S g))), .inl (nI c), .inr (.inr (4, 0, 3))], (I, tk_so J 4 0 (tk_u1 N 3 r), R)) _ from ⟨vp_in_nI (by omega) (by omega), ?_⟩)
      rw [hv.at (by omega) (by omega)]
      show tkDn tm_94 (51, [some (.inr (.inr (4, 0, 0))), some (.inr (.inr (1, b, 0))), some (.inl (nI g)), some (.inl (nI c))], [.inr (.inl (v c g)), .inl (nI (sf S (sgl S g))), .inl (nI c), .inr (.inr (4, 0, 3))], (I, tk_so J 4 0 (tk_u1 N 3 r), R)) _
      refine dn_call rfl rfl rfl rfl rfl (ss_lower_4_3 (by omega) (by omega) ?_)
      rw [tk_so_so, tk_so_same, tk_u1_u1, tk_u1_same]
      show tkDn tm_94 (54, [some (.inr (.inr (4, 0, 0))), some (.inr (.inr (1, b, 0))), some (.inl (nI g)), some (.inl (nI c))], [], (I, tk_so J 4 0 (tk_u1 N 3 (low1 r (16 * c + (sf S (sgl S g))) (v c g))), R)) _
      refine dn_run 2 (show tkDn tm_94 (23, [some (.inr (.inr (4, 0, 0))), some (.inr (.inr (1, b, 0))), some (.inl (nI g)), some (.inl ((nI c) + 1))], [], (I, tk_so J 4 0 (tk_u1 N 3 (low1 r (16 * c + (sf S (sgl S g))) (v c g))), R)) _ from ?_)
      rw [nI_1]
      exact ih (c + 1) _ (by omega) (hr.low (by omega) (by omega) (by omega))
set_option maxRecDepth 8000 in
theorem sw_hr_out {I : tkI} {J : tkJ} {R : Nat → Nat} {Q : tkQ} {b : Nat} {S : tkS} (hP : NetP (I 1 b) S) (w : WF S) {e v : tkD} {N : Nat → Nat → Int64} (hv : WRow (N 4) v) (hQ : ∀ r, Q (some (.inl (if (clF (hrO S v e (sM S) (sG S)) (sM S)).1 = true then 0 else 1))) (I, tk_so J 4 0 (tk_u1 N 3 r), R)) : ∀ m g r oc, g + m = sG S → RowP 16 r (hrO S v e (sM S) g) → tkDn tm_94 (13, [some (.inr (.inr (4, 0, 0))), some (.inr (.inr (1, b, 0))), some (.inl (nI g)), oc], [], (I, tk_so J 4 0 (tk_u1 N 3 r), R)) Q := by
  have hM16 := w.1
  have hL60 := w.2.1
  have hG6 := w.2.2.1
  intro m
  induction m with
  | zero =>
    intro g r oc hg hr
    have hg : g = sG S := by omega
    rw [hg] at hr
    show tkDn tm_94 (13, [some (.inr (.inr (4, 0, 0))), some (.inr (.inr (1, b, 0))), some (.inl (nI g)), oc], [], (I, tk_so J 4 0 (tk_u1 N 3 r), R)) _
    refine dn_run 2 (show tkDn tm_94 (15, [some (.inr (.inr (4, 0, 0))), some (.inr (.inr (1, b, 0))), some (.inl (nI g)), oc], [.inr (.inr (1, b, 0)), .inl (nI g)], (I, tk_so J 4 0 (tk_u1 N 3 r), R)) _ from ?_)
    refine dn_call rfl rfl rfl rfl rfl (sN_giftCount hP ?_)
    show tkDn tm_94 (18, [some (.inr (.inr (4, 0, 0))), some (.inr (.inr (1, b, 0))), some (.inl (nI g)), oc], [.inl (nI (sG S)), .inl (nI g)], (I, tk_so J 4 0 (tk_u1 N 3 r), R)) _
    refine dn_if rfl rfl rfl (fun (qq : (nI (sG S)) ≤ (nI g)) => ?_) (fun (qq : ¬ (nI (sG S)) ≤ (nI g)) => ?_)
    · show tkDn tm_94 (66, [some (.inr (.inr (4, 0, 0))), some (.inr (.inr (1, b, 0))), some (.inl (nI g)), oc], [], (I, tk_so J 4 0 (tk_u1 N 3 r), R)) _
      refine dn_run 3 (show tkDn tm_94 (71, [some (.inr (.inr (4, 0, 0))), some (.inr (.inr (1, b, 0))), some (.inl (nI g)), oc], [.inr (.inr (1, b, 0)), .inr (.inr (4, 0, 3))], (I, tk_so J 4 0 (tk_u1 N 3 r), R)) _ from ?_)
      refine dn_call rfl rfl rfl rfl rfl (sN_momentCount hP ?_)
      show tkDn tm_94 (74, [some (.inr (.inr (4, 0, 0))), some (.inr (.inr (1, b, 0))), some (.inl (nI g)), oc], [.inl (nI (sM S)), .inr (.inr (4, 0, 3))], (I, tk_so J 4 0 (tk_u1 N 3 r), R)) _
      refine dn_call rfl rfl rfl rfl rfl (ss_close_4_3 (d := hrO S v e (sM S) (sG S)) hM16 hr (fun r3 hr3 => ?_))
      rw [tk_so_so, tk_so_same, tk_u1_u1]
      show tkDn tm_94 (77, [some (.inr (.inr (4, 0, 0))), some (.inr (.inr (1, b, 0))), some (.inl (nI g)), oc], [.inl (if (clF (hrO S v e (sM S) (sG S)) (sM S)).1 = true then 1 else 0)], (I, tk_so J 4 0 (tk_u1 N 3 r3), R)) _
      refine dn_if rfl rfl rfl (fun (c : ¬ (if (clF (hrO S v e (sM S) (sG S)) (sM S)).1 = true then 1 else 0) = 0) => ?_) (fun (c : (if (clF (hrO S v e (sM S) (sG S)) (sM S)).1 = true then 1 else 0) = 0) => ?_)
      · show tkDn tm_94 (84, [some (.inr (.inr (4, 0, 0))), some (.inr (.inr (1, b, 0))), some (.inl (nI g)), oc], [], (I, tk_so J 4 0 (tk_u1 N 3 r3), R)) _
        refine dn_run 1 (show tkDn tm_94 (85, [some (.inr (.inr (4, 0, 0))), some (.inr (.inr (1, b, 0))), some (.inl (nI g)), oc], [.inl 0], (I, tk_so J 4 0 (tk_u1 N 3 r3), R)) _ from ?_)
        refine dn_retb rfl rfl rfl rfl (by decide) ?_
        have e1 : (clF (hrO S v e (sM S) (sG S)) (sM S)).1 = true := by by_cases z : (clF (hrO S v e (sM S) (sG S)) (sM S)).1 = true; exact z; exact absurd (if_neg z) c
        have := hQ r3
        rw [if_pos e1] at this
        exact this
      · show tkDn tm_94 (80, [some (.inr (.inr (4, 0, 0))), some (.inr (.inr (1, b, 0))), some (.inl (nI g)), oc], [], (I, tk_so J 4 0 (tk_u1 N 3 r3), R)) _
        refine dn_run 2 (show tkDn tm_94 (85, [some (.inr (.inr (4, 0, 0))), some (.inr (.inr (1, b, 0))), some (.inl (nI g)), oc], [.inl 1], (I, tk_so J 4 0 (tk_u1 N 3 r3), R)) _ from ?_)
        refine dn_retb rfl rfl rfl rfl (by decide) ?_
        have e1 : ¬ (clF (hrO S v e (sM S) (sG S)) (sM S)).1 = true := fun z => by rw [if_pos z] at c; exact absurd c (by decide)
        have := hQ r3
        rw [if_neg e1] at this
        exact this
    · exact absurd (nI_le (by omega) (by omega)) qq
  | succ m ih =>
    intro g r oc hg hr
    show tkDn tm_94 (13, [some (.inr (.inr (4, 0, 0))), some (.inr (.inr (1, b, 0))), some (.inl (nI g)), oc], [], (I, tk_so J 4 0 (tk_u1 N 3 r), R)) _
    refine dn_run 2 (show tkDn tm_94 (15, [some (.inr (.inr (4, 0, 0))), some (.inr (.inr (1, b, 0))), some (.inl (nI g)), oc], [.inr (.inr (1, b, 0)), .inl (nI g)], (I, tk_so J 4 0 (tk_u1 N 3 r), R)) _ from ?_)
    refine dn_call rfl rfl rfl rfl rfl (sN_giftCount hP ?_)
    show tkDn tm_94 (18, [some (.inr (.inr (4, 0, 0))), some (.inr (.inr (1, b, 0))), some (.inl (nI g)), oc], [.inl (nI (sG S)), .inl (nI g)], (I, tk_so J 4 0 (tk_u1 N 3 r), R)) _
    refine dn_if rfl rfl rfl (fun (qq : (nI (sG S)) ≤ (nI g)) => ?_) (fun (qq : ¬ (nI (sG S)) ≤ (nI g)) => ?_)
    · exact absurd qq (nI_ge (by omega) (by omega))
    · show tkDn tm_94 (21, [some (.inr (.inr (4, 0, 0))), some (.inr (.inr (1, b, 0))), some (.inl (nI g)), oc], [], (I, tk_so J 4 0 (tk_u1 N 3 r), R)) _
      refine dn_run 2 (show tkDn tm_94 (23, [some (.inr (.inr (4, 0, 0))), some (.inr (.inr (1, b, 0))), some (.inl (nI g)), some (.inl 0)], [], (I, tk_so J 4 0 (tk_u1 N 3 r), R)) _ from ?_)
      refine sw_hr_in hP w hv (by omega) (fun r2  hr2 => ?_) (sM S) 0 r  (Nat.zero_add _) hr
      show tkDn tm_94 (60, [some (.inr (.inr (4, 0, 0))), some (.inr (.inr (1, b, 0))), some (.inl (nI g)), some (.inl (nI (sM S)))], [], (I, tk_so J 4 0 (tk_u1 N 3 r2), R)) _
      refine dn_run 2 (show tkDn tm_94 (13, [some (.inr (.inr (4, 0, 0))), some (.inr (.inr (1, b, 0))), some (.inl ((nI g) + 1)), some (.inl (nI (sM S)))], [], (I, tk_so J 4 0 (tk_u1 N 3 r2), R)) _ from ?_)
      rw [nI_1]
      exact ih (g + 1) r2 _ (by omega) hr2
set_option maxRecDepth 8000 in
theorem sw_hasRing {I : tkI} {J : tkJ} {R : Nat → Nat} {Q : tkQ} {b : Nat} {S : tkS} (hP : NetP (I 1 b) S) (w : WF S) {e v : tkD} {N : Nat → Nat → Int64} (he : RowP 16 (N 1) e) (hv : WRow (N 4) v) (hQ : ∀ N2, (∀ s, s ≠ 3 → N2 s = N s) → Q (some (.inl (if (clF (hrO S v e (sM S) (sG S)) (sM S)).1 = true then 0 else 1))) (I, tk_so J 4 0 N2, R)) : tkDn tm_94 (0, [some (.inr (.inr (4, 0, 0))), some (.inr (.inr (1, b, 0))), none, none], [], (I, tk_so J 4 0 N, R)) Q := by
  refine dn_run 4 (show tkDn tm_94 (8, [some (.inr (.inr (4, 0, 0))), some (.inr (.inr (1, b, 0))), none, none], [.inr (.inr (4, 0, 3)), .inr (.inr (4, 0, 1))], (I, tk_so J 4 0 N, R)) _ from ?_)
  refine dn_call rfl rfl rfl rfl rfl (sw_copy_1_3 (fun r hr => ?_))
  rw [tk_so_so, tk_so_same]
  rw [tk_so_same] at hr
  show tkDn tm_94 (11, [some (.inr (.inr (4, 0, 0))), some (.inr (.inr (1, b, 0))), none, none], [], (I, tk_so J 4 0 (tk_u1 N 3 r), R)) _
  refine dn_run 2 (show tkDn tm_94 (13, [some (.inr (.inr (4, 0, 0))), some (.inr (.inr (1, b, 0))), some (.inl 0), none], [], (I, tk_so J 4 0 (tk_u1 N 3 r), R)) _ from ?_)
  have key := sw_hr_out (J := J) (N := N) (R := R) (Q := Q) (e := e) (v := v) hP w hv (fun r2 => hQ _ (fun s h3 => tk_u1_ne h3)) (sG S) 0 r none (Nat.zero_add _) (he.cp hr)
  exact key
