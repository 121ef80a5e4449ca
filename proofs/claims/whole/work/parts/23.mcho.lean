/-! the reference: together, distance, strong, weak, spoiler -/
set_option maxRecDepth 8000 in
theorem sm_layLinks_loop {I : tkI} {J : tkJ} {R : Nat → Nat} {Q : tkQ} {S : tkS} (hP : NetP (I 6 0) S) (w : WF S) {k : Int32} (hQ : ∀ r, RowP (sM S) r (mlM S k (sL S)) → Q none (I, tk_so J 6 0 (tk_u1 (J 6 0) 21 r), R)) : ∀ n l r o3 o4 o5, l + n = sL S → RowP (sM S) r (mlM S k l) → tkDn tm_151 (10, [some (.inr (.inr (6, 0, 0))), some (.inl k), some (.inl (nI l)), o3, o4, o5], [], (I, tk_so J 6 0 (tk_u1 (J 6 0) 21 r), R)) Q := by
  have hM16 := w.1
  have hL60 := w.2.1
  have hG6 := w.2.2.1
  have hM := hP.m
  have hL := hP.l
  have hG := hP.g
  intro n
  induction n with
  | zero =>
    intro l r o3 o4 o5 hl hr
    show tkDn tm_151 (10, [some (.inr (.inr (6, 0, 0))), some (.inl k), some (.inl (nI l)), o3, o4, o5], [], (I, tk_so J 6 0 (tk_u1 (J 6 0) 21 r), R)) _
    refine dn_run 3 (show tkDn tm_151 (15, [some (.inr (.inr (6, 0, 0))), some (.inl k), some (.inl (nI l)), o3, o4, o5], [.inl (I 6 0 0 1), .inl (nI l)], (I, tk_so J 6 0 (tk_u1 (J 6 0) 21 r), R)) _ from ?_)
    rw [hL]
    refine dn_if rfl rfl rfl (fun (c : (nI (sL S)) ≤ (nI l)) => ?_) (fun (c : ¬ (nI (sL S)) ≤ (nI l)) => ?_)
    · show tkDn tm_151 (150, [some (.inr (.inr (6, 0, 0))), some (.inl k), some (.inl (nI l)), o3, o4, o5], [], (I, tk_so J 6 0 (tk_u1 (J 6 0) 21 r), R)) _
      refine dn_ret0 rfl rfl rfl rfl ?_
      rw [show l = sL S by omega] at hr
      exact hQ r hr
    · exact absurd (nI_le (by omega) (by omega)) c
  | succ n ih =>
    intro l r o3 o4 o5 hl hr
    have hf := w.fM (j := l) (by omega)
    have he := w.eM (j := l) (by omega)
    have e4 := hP.fr w (j := l) (by omega)
    have e5 := hP.en w (j := l) (by omega)
    have e6 := hP.lo w (j := l) (by omega)
    have e7 := hP.hi w (j := l) (by omega)
    have e8 := hP.gn w (j := l) (by omega)
    show tkDn tm_151 (10, [some (.inr (.inr (6, 0, 0))), some (.inl k), some (.inl (nI l)), o3, o4, o5], [], (I, tk_so J 6 0 (tk_u1 (J 6 0) 21 r), R)) _
    refine dn_run 3 (show tkDn tm_151 (15, [some (.inr (.inr (6, 0, 0))), some (.inl k), some (.inl (nI l)), o3, o4, o5], [.inl (I 6 0 0 1), .inl (nI l)], (I, tk_so J 6 0 (tk_u1 (J 6 0) 21 r), R)) _ from ?_)
    rw [hL]
    refine dn_if rfl rfl rfl (fun (c : (nI (sL S)) ≤ (nI l)) => ?_) (fun (c : ¬ (nI (sL S)) ≤ (nI l)) => ?_)
    · exact absurd c (nI_ge (by omega) (by omega))
    · show tkDn tm_151 (18, [some (.inr (.inr (6, 0, 0))), some (.inl k), some (.inl (nI l)), o3, o4, o5], [], (I, tk_so J 6 0 (tk_u1 (J 6 0) 21 r), R)) _
      refine dn_run 6 (show (vp_in (nI l) 60) ∧ tkDn tm_151 (26, [some (.inr (.inr (6, 0, 0))), some (.inl k), some (.inl (nI l)), some (.inl (I 6 0 8 ((nI l).toNatClampNeg))), o4, o5], [.inl k], (I, tk_so J 6 0 (tk_u1 (J 6 0) 21 r), R)) _ from ⟨vp_in_nI (by omega) (by omega), ?_⟩)
      rw [e8]
      show tkDn tm_151 (26, [some (.inr (.inr (6, 0, 0))), some (.inl k), some (.inl (nI l)), some (.inl (sgn S l)), o4, o5], [.inl k], (I, tk_so J 6 0 (tk_u1 (J 6 0) 21 r), R)) _
      refine dn_if rfl rfl rfl (fun (c1 : k < 0) => ?_) (fun (c1 : ¬ k < 0) => ?_)
      · show tkDn tm_151 (37, [some (.inr (.inr (6, 0, 0))), some (.inl k), some (.inl (nI l)), some (.inl (sgn S l)), o4, o5], [], (I, tk_so J 6 0 (tk_u1 (J 6 0) 21 r), R)) _
        refine dn_run 3 (show tkDn tm_151 (42, [some (.inr (.inr (6, 0, 0))), some (.inl k), some (.inl (nI l)), some (.inl (sgn S l)), some (.inl 0), o5], [.inl 0], (I, tk_so J 6 0 (tk_u1 (J 6 0) 21 r), R)) _ from ?_)
        refine dn_if rfl rfl rfl (fun (c3 : ((0 : Int32) = 0 : Prop)) => ?_) (fun (c3 : (¬ (0 : Int32) = 0 : Prop)) => ?_)
        · show tkDn tm_151 (58, [some (.inr (.inr (6, 0, 0))), some (.inl k), some (.inl (nI l)), some (.inl (sgn S l)), some (.inl 0), o5], [], (I, tk_so J 6 0 (tk_u1 (J 6 0) 21 r), R)) _
          refine dn_run 2 (show tkDn tm_151 (61, [some (.inr (.inr (6, 0, 0))), some (.inl k), some (.inl (nI l)), some (.inl (sgn S l)), some (.inl 0), some (.inl 0)], [], (I, tk_so J 6 0 (tk_u1 (J 6 0) 21 r), R)) _ from ?_)
          have hA : mlA S k l = shi S l := if_neg (fun q => absurd c1 (Int32.not_lt.mpr q.1.1))
          have hB : mlB S k l = -slo S l := if_neg (fun q => absurd c1 (Int32.not_lt.mpr q.1.1))
          refine dn_run 10 (show (vp_in (nI l) 60) ∧ (vp_in (nI l) 60) ∧ tkDn tm_151 (76, [some (.inr (.inr (6, 0, 0))), some (.inl k), some (.inl (nI l)), some (.inl (sgn S l)), some (.inl 0), some (.inl 0)], [.inl 0, .inl (I 6 0 5 ((nI l).toNatClampNeg)), .inl (I 6 0 4 ((nI l).toNatClampNeg)), .inr (.inr (6, 0, 0))], (I, tk_so J 6 0 (tk_u1 (J 6 0) 21 r), R)) _ from ⟨vp_in_nI (by omega) (by omega), vp_in_nI (by omega) (by omega), ?_⟩)
          rw [e4, e5]
          show tkDn tm_151 (76, [some (.inr (.inr (6, 0, 0))), some (.inl k), some (.inl (nI l)), some (.inl (sgn S l)), some (.inl 0), some (.inl 0)], [.inl 0, .inl (nI (se S l)), .inl (nI (sf S l)), .inr (.inr (6, 0, 0))], (I, tk_so J 6 0 (tk_u1 (J 6 0) 21 r), R)) _
          refine dn_if rfl rfl rfl (fun (cd : ((0 : Int32) = 0 : Prop)) => ?_) (fun (cd : (¬ (0 : Int32) = 0 : Prop)) => ?_)
          · show tkDn tm_151 (94, [some (.inr (.inr (6, 0, 0))), some (.inl k), some (.inl (nI l)), some (.inl (sgn S l)), some (.inl 0), some (.inl 0)], [.inl (nI (se S l)), .inl (nI (sf S l)), .inr (.inr (6, 0, 0))], (I, tk_so J 6 0 (tk_u1 (J 6 0) 21 r), R)) _
            refine dn_run 5 (show (vp_in (nI l) 60) ∧ tkDn tm_151 (101, [some (.inr (.inr (6, 0, 0))), some (.inl k), some (.inl (nI l)), some (.inl (sgn S l)), some (.inl 0), some (.inl 0)], [.inr (.inl (((I 6 0 7 ((nI l).toNatClampNeg)) : Int32).toInt64)), .inl (nI (se S l)), .inl (nI (sf S l)), .inr (.inr (6, 0, 0))], (I, tk_so J 6 0 (tk_u1 (J 6 0) 21 r), R)) _ from ⟨vp_in_nI (by omega) (by omega), ?_⟩)
            rw [e7]
            show tkDn tm_151 (101, [some (.inr (.inr (6, 0, 0))), some (.inl k), some (.inl (nI l)), some (.inl (sgn S l)), some (.inl 0), some (.inl 0)], [.inr (.inl ((shi S l).toInt64)), .inl (nI (se S l)), .inl (nI (sf S l)), .inr (.inr (6, 0, 0))], (I, tk_so J 6 0 (tk_u1 (J 6 0) 21 r), R)) _
            refine dn_call rfl rfl rfl rfl rfl (sm_step (by omega) (by omega) ?_)
            rw [tk_so_so, tk_so_same, tk_u1_u1, tk_u1_same, ← hA]
            show tkDn tm_151 (104, [some (.inr (.inr (6, 0, 0))), some (.inl k), some (.inl (nI l)), some (.inl (sgn S l)), some (.inl 0), some (.inl 0)], [], (I, tk_so J 6 0 (tk_u1 (J 6 0) 21 (low1 r (16 * sf S l + se S l) (mlA S k l).toInt64)), R)) _
            refine dn_run 10 (show (vp_in (nI l) 60) ∧ (vp_in (nI l) 60) ∧ tkDn tm_151 (119, [some (.inr (.inr (6, 0, 0))), some (.inl k), some (.inl (nI l)), some (.inl (sgn S l)), some (.inl 0), some (.inl 0)], [.inl 0, .inl (I 6 0 4 ((nI l).toNatClampNeg)), .inl (I 6 0 5 ((nI l).toNatClampNeg)), .inr (.inr (6, 0, 0))], (I, tk_so J 6 0 (tk_u1 (J 6 0) 21 (low1 r (16 * sf S l + se S l) (mlA S k l).toInt64)), R)) _ from ⟨vp_in_nI (by omega) (by omega), vp_in_nI (by omega) (by omega), ?_⟩)
            rw [e5, e4]
            show tkDn tm_151 (119, [some (.inr (.inr (6, 0, 0))), some (.inl k), some (.inl (nI l)), some (.inl (sgn S l)), some (.inl 0), some (.inl 0)], [.inl 0, .inl (nI (sf S l)), .inl (nI (se S l)), .inr (.inr (6, 0, 0))], (I, tk_so J 6 0 (tk_u1 (J 6 0) 21 (low1 r (16 * sf S l + se S l) (mlA S k l).toInt64)), R)) _
            refine dn_if rfl rfl rfl (fun (cc : ((0 : Int32) = 0 : Prop)) => ?_) (fun (cc : (¬ (0 : Int32) = 0 : Prop)) => ?_)
            · show tkDn tm_151 (133, [some (.inr (.inr (6, 0, 0))), some (.inl k), some (.inl (nI l)), some (.inl (sgn S l)), some (.inl 0), some (.inl 0)], [.inl (nI (sf S l)), .inl (nI (se S l)), .inr (.inr (6, 0, 0))], (I, tk_so J 6 0 (tk_u1 (J 6 0) 21 (low1 r (16 * sf S l + se S l) (mlA S k l).toInt64)), R)) _
              refine dn_run 6 (show (vp_in (nI l) 60) ∧ tkDn tm_151 (141, [some (.inr (.inr (6, 0, 0))), some (.inl k), some (.inl (nI l)), some (.inl (sgn S l)), some (.inl 0), some (.inl 0)], [.inr (.inl (((-(I 6 0 6 ((nI l).toNatClampNeg))) : Int32).toInt64)), .inl (nI (sf S l)), .inl (nI (se S l)), .inr (.inr (6, 0, 0))], (I, tk_so J 6 0 (tk_u1 (J 6 0) 21 (low1 r (16 * sf S l + se S l) (mlA S k l).toInt64)), R)) _ from ⟨vp_in_nI (by omega) (by omega), ?_⟩)
              rw [e6]
              show tkDn tm_151 (141, [some (.inr (.inr (6, 0, 0))), some (.inl k), some (.inl (nI l)), some (.inl (sgn S l)), some (.inl 0), some (.inl 0)], [.inr (.inl ((-slo S l).toInt64)), .inl (nI (sf S l)), .inl (nI (se S l)), .inr (.inr (6, 0, 0))], (I, tk_so J 6 0 (tk_u1 (J 6 0) 21 (low1 r (16 * sf S l + se S l) (mlA S k l).toInt64)), R)) _
              refine dn_call rfl rfl rfl rfl rfl (sm_step (by omega) (by omega) ?_)
              rw [tk_so_so, tk_so_same, tk_u1_u1, tk_u1_same, ← hB]
              show tkDn tm_151 (144, [some (.inr (.inr (6, 0, 0))), some (.inl k), some (.inl (nI l)), some (.inl (sgn S l)), some (.inl 0), some (.inl 0)], [], (I, tk_so J 6 0 (tk_u1 (J 6 0) 21 (low1 (low1 r (16 * sf S l + se S l) (mlA S k l).toInt64) (16 * se S l + sf S l) (mlB S k l).toInt64)), R)) _
              refine dn_run 2 (show tkDn tm_151 (10, [some (.inr (.inr (6, 0, 0))), some (.inl k), some (.inl ((nI l) + 1)), some (.inl (sgn S l)), some (.inl 0), some (.inl 0)], [], (I, tk_so J 6 0 (tk_u1 (J 6 0) 21 (low1 (low1 r (16 * sf S l + se S l) (mlA S k l).toInt64) (16 * se S l + sf S l) (mlB S k l).toInt64)), R)) _ from ?_)
              rw [nI_1]
              exact ih (l + 1) _ _ _ _ (by omega) ((hr.low (by omega) hf he).low (by omega) he hf)
            · exact absurd rfl cc
          · exact absurd rfl cd
        · exact absurd rfl c3
      · show tkDn tm_151 (29, [some (.inr (.inr (6, 0, 0))), some (.inl k), some (.inl (nI l)), some (.inl (sgn S l)), o4, o5], [], (I, tk_so J 6 0 (tk_u1 (J 6 0) 21 r), R)) _
        refine dn_run 1 (show tkDn tm_151 (30, [some (.inr (.inr (6, 0, 0))), some (.inl k), some (.inl (nI l)), some (.inl (sgn S l)), o4, o5], [.inl (sgn S l)], (I, tk_so J 6 0 (tk_u1 (J 6 0) 21 r), R)) _ from ?_)
        refine dn_if rfl rfl rfl (fun (c2 : (sgn S l) < 0) => ?_) (fun (c2 : ¬ (sgn S l) < 0) => ?_)
        · show tkDn tm_151 (37, [some (.inr (.inr (6, 0, 0))), some (.inl k), some (.inl (nI l)), some (.inl (sgn S l)), o4, o5], [], (I, tk_so J 6 0 (tk_u1 (J 6 0) 21 r), R)) _
          refine dn_run 3 (show tkDn tm_151 (42, [some (.inr (.inr (6, 0, 0))), some (.inl k), some (.inl (nI l)), some (.inl (sgn S l)), some (.inl 0), o5], [.inl 0], (I, tk_so J 6 0 (tk_u1 (J 6 0) 21 r), R)) _ from ?_)
          refine dn_if rfl rfl rfl (fun (c3 : ((0 : Int32) = 0 : Prop)) => ?_) (fun (c3 : (¬ (0 : Int32) = 0 : Prop)) => ?_)
          · show tkDn tm_151 (58, [some (.inr (.inr (6, 0, 0))), some (.inl k), some (.inl (nI l)), some (.inl (sgn S l)), some (.inl 0), o5], [], (I, tk_so J 6 0 (tk_u1 (J 6 0) 21 r), R)) _
            refine dn_run 2 (show tkDn tm_151 (61, [some (.inr (.inr (6, 0, 0))), some (.inl k), some (.inl (nI l)), some (.inl (sgn S l)), some (.inl 0), some (.inl 0)], [], (I, tk_so J 6 0 (tk_u1 (J 6 0) 21 r), R)) _ from ?_)
            have hA : mlA S k l = shi S l := if_neg (fun q => absurd c2 (Int32.not_lt.mpr q.1.2))
            have hB : mlB S k l = -slo S l := if_neg (fun q => absurd c2 (Int32.not_lt.mpr q.1.2))
            refine dn_run 10 (show (vp_in (nI l) 60) ∧ (vp_in (nI l) 60) ∧ tkDn tm_151 (76, [some (.inr (.inr (6, 0, 0))), some (.inl k), some (.inl (nI l)), some (.inl (sgn S l)), some (.inl 0), some (.inl 0)], [.inl 0, .inl (I 6 0 5 ((nI l).toNatClampNeg)), .inl (I 6 0 4 ((nI l).toNatClampNeg)), .inr (.inr (6, 0, 0))], (I, tk_so J 6 0 (tk_u1 (J 6 0) 21 r), R)) _ from ⟨vp_in_nI (by omega) (by omega), vp_in_nI (by omega) (by omega), ?_⟩)
            rw [e4, e5]
            show tkDn tm_151 (76, [some (.inr (.inr (6, 0, 0))), some (.inl k), some (.inl (nI l)), some (.inl (sgn S l)), some (.inl 0), some (.inl 0)], [.inl 0, .inl (nI (se S l)), .inl (nI (sf S l)), .inr (.inr (6, 0, 0))], (I, tk_so J 6 0 (tk_u1 (J 6 0) 21 r), R)) _
            refine dn_if rfl rfl rfl (fun (cd : ((0 : Int32) = 0 : Prop)) => ?_) (fun (cd : (¬ (0 : Int32) = 0 : Prop)) => ?_)
            · show tkDn tm_151 (94, [some (.inr (.inr (6, 0, 0))), some (.inl k), some (.inl (nI l)), some (.inl (sgn S l)), some (.inl 0), some (.inl 0)], [.inl (nI (se S l)), .inl (nI (sf S l)), .inr (.inr (6, 0, 0))], (I, tk_so J 6 0 (tk_u1 (J 6 0) 21 r), R)) _
              refine dn_run 5 (show (vp_in (nI l) 60) ∧ tkDn tm_151 (101, [some (.inr (.inr (6, 0, 0))), some (.inl k), some (.inl (nI l)), some (.inl (sgn S l)), some (.inl 0), some (.inl 0)], [.inr (.inl (((I 6 0 7 ((nI l).toNatClampNeg)) : Int32).toInt64)), .inl (nI (se S l)), .inl (nI (sf S l)), .inr (.inr (6, 0, 0))], (I, tk_so J 6 0 (tk_u1 (J 6 0) 21 r), R)) _ from ⟨vp_in_nI (by omega) (by omega), ?_⟩)
              rw [e7]
              show tkDn tm_151 (101, [some (.inr (.inr (6, 0, 0))), some (.inl k), some (.inl (nI l)), some (.inl (sgn S l)), some (.inl 0), some (.inl 0)], [.inr (.inl ((shi S l).toInt64)), .inl (nI (se S l)), .inl (nI (sf S l)), .inr (.inr (6, 0, 0))], (I, tk_so J 6 0 (tk_u1 (J 6 0) 21 r), R)) _
              refine dn_call rfl rfl rfl rfl rfl (sm_step (by omega) (by omega) ?_)
              rw [tk_so_so, tk_so_same, tk_u1_u1, tk_u1_same, ← hA]
              show tkDn tm_151 (104, [some (.inr (.inr (6, 0, 0))), some (.inl k), some (.inl (nI l)), some (.inl (sgn S l)), some (.inl 0), some (.inl 0)], [], (I, tk_so J 6 0 (tk_u1 (J 6 0) 21 (low1 r (16 * sf S l + se S l) (mlA S k l).toInt64)), R)) _
              refine dn_run 10 (show (vp_in (nI l) 60) ∧ (vp_in (nI l) 60) ∧ tkDn tm_151 (119, [some (.inr (.inr (6, 0, 0))), some (.inl k), some (.inl (nI l)), some (.inl (sgn S l)), some (.inl 0), some (.inl 0)], [.inl 0, .inl (I 6 0 4 ((nI l).toNatClampNeg)), .inl (I 6 0 5 ((nI l).toNatClampNeg)), .inr (.inr (6, 0, 0))], (I, tk_so J 6 0 (tk_u1 (J 6 0) 21 (low1 r (16 * sf S l + se S l) (mlA S k l).toInt64)), R)) _ from ⟨vp_in_nI (by omega) (by omega), vp_in_nI (by omega) (by omega), ?_⟩)
              rw [e5, e4]
              show tkDn tm_151 (119, [some (.inr (.inr (6, 0, 0))), some (.inl k), some (.inl (nI l)), some (.inl (sgn S l)), some (.inl 0), some (.inl 0)], [.inl 0, .inl (nI (sf S l)), .inl (nI (se S l)), .inr (.inr (6, 0, 0))], (I, tk_so J 6 0 (tk_u1 (J 6 0) 21 (low1 r (16 * sf S l + se S l) (mlA S k l).toInt64)), R)) _
              refine dn_if rfl rfl rfl (fun (cc : ((0 : Int32) = 0 : Prop)) => ?_) (fun (cc : (¬ (0 : Int32) = 0 : Prop)) => ?_)
              · show tkDn tm_151 (133, [some (.inr (.inr (6, 0, 0))), some (.inl k), some (.inl (nI l)), some (.inl (sgn S l)), some (.inl 0), some (.inl 0)], [.inl (nI (sf S l)), .inl (nI (se S l)), .inr (.inr (6, 0, 0))], (I, tk_so J 6 0 (tk_u1 (J 6 0) 21 (low1 r (16 * sf S l + se S l) (mlA S k l).toInt64)), R)) _
                refine dn_run 6 (show (vp_in (nI l) 60) ∧ tkDn tm_151 (141, [some (.inr (.inr (6, 0, 0))), some (.inl k), some (.inl (nI l)), some (.inl (sgn S l)), some (.inl 0), some (.inl 0)], [.inr (.inl (((-(I 6 0 6 ((nI l).toNatClampNeg))) : Int32).toInt64)), .inl (nI (sf S l)), .inl (nI (se S l)), .inr (.inr (6, 0, 0))], (I, tk_so J 6 0 (tk_u1 (J 6 0) 21 (low1 r (16 * sf S l + se S l) (mlA S k l).toInt64)), R)) _ from ⟨vp_in_nI (by omega) (by omega), ?_⟩)
                rw [e6]
                show tkDn tm_151 (141, [some (.inr (.inr (6, 0, 0))), some (.inl k), some (.inl (nI l)), some (.inl (sgn S l)), some (.inl 0), some (.inl 0)], [.inr (.inl ((-slo S l).toInt64)), .inl (nI (sf S l)), .inl (nI (se S l)), .inr (.inr (6, 0, 0))], (I, tk_so J 6 0 (tk_u1 (J 6 0) 21 (low1 r (16 * sf S l + se S l) (mlA S k l).toInt64)), R)) _
                refine dn_call rfl rfl rfl rfl rfl (sm_step (by omega) (by omega) ?_)
                rw [tk_so_so, tk_so_same, tk_u1_u1, tk_u1_same, ← hB]
                show tkDn tm_151 (144, [some (.inr (.inr (6, 0, 0))), some (.inl k), some (.inl (nI l)), some (.inl (sgn S l)), some (.inl 0), some (.inl 0)], [], (I, tk_so J 6 0 (tk_u1 (J 6 0) 21 (low1 (low1 r (16 * sf S l + se S l) (mlA S k l).toInt64) (16 * se S l + sf S l) (mlB S k l).toInt64)), R)) _
                refine dn_run 2 (show tkDn tm_151 (10, [some (.inr (.inr (6, 0, 0))), some (.inl k), some (.inl ((nI l) + 1)), some (.inl (sgn S l)), some (.inl 0), some (.inl 0)], [], (I, tk_so J 6 0 (tk_u1 (J 6 0) 21 (low1 (low1 r (16 * sf S l + se S l) (mlA S k l).toInt64) (16 * se S l + sf S l) (mlB S k l).toInt64)), R)) _ from ?_)
                rw [nI_1]
                exact ih (l + 1) _ _ _ _ (by omega) ((hr.low (by omega) hf he).low (by omega) he hf)
              · exact absurd rfl cc
            · exact absurd rfl cd
          · exact absurd rfl c3
        · show tkDn tm_151 (33, [some (.inr (.inr (6, 0, 0))), some (.inl k), some (.inl (nI l)), some (.inl (sgn S l)), o4, o5], [], (I, tk_so J 6 0 (tk_u1 (J 6 0) 21 r), R)) _
          refine dn_run 4 (show tkDn tm_151 (42, [some (.inr (.inr (6, 0, 0))), some (.inl k), some (.inl (nI l)), some (.inl (sgn S l)), some (.inl 1), o5], [.inl 1], (I, tk_so J 6 0 (tk_u1 (J 6 0) 21 r), R)) _ from ?_)
          refine dn_if rfl rfl rfl (fun (c3 : ((1 : Int32) = 0 : Prop)) => ?_) (fun (c3 : (¬ (1 : Int32) = 0 : Prop)) => ?_)
          · exact absurd c3 (by decide)
          · show tkDn tm_151 (45, [some (.inr (.inr (6, 0, 0))), some (.inl k), some (.inl (nI l)), some (.inl (sgn S l)), some (.inl 1), o5], [], (I, tk_so J 6 0 (tk_u1 (J 6 0) 21 r), R)) _
            refine dn_run 6 (show tkDn tm_151 (51, [some (.inr (.inr (6, 0, 0))), some (.inl k), some (.inl (nI l)), some (.inl (sgn S l)), some (.inl 1), o5], [.inl 1, .inl ((k >>> ((sgn S l) &&& 31)) &&& 1)], (I, tk_so J 6 0 (tk_u1 (J 6 0) 21 r), R)) _ from ?_)
            refine dn_if rfl rfl rfl (fun (c4 : ¬ ((k >>> ((sgn S l) &&& 31)) &&& 1) = 1) => ?_) (fun (c4 : ((k >>> ((sgn S l) &&& 31)) &&& 1) = 1) => ?_)
            · show tkDn tm_151 (58, [some (.inr (.inr (6, 0, 0))), some (.inl k), some (.inl (nI l)), some (.inl (sgn S l)), some (.inl 1), o5], [], (I, tk_so J 6 0 (tk_u1 (J 6 0) 21 r), R)) _
              refine dn_run 2 (show tkDn tm_151 (61, [some (.inr (.inr (6, 0, 0))), some (.inl k), some (.inl (nI l)), some (.inl (sgn S l)), some (.inl 1), some (.inl 0)], [], (I, tk_so J 6 0 (tk_u1 (J 6 0) 21 r), R)) _ from ?_)
              have hA : mlA S k l = slo S l := if_pos ⟨⟨Int32.not_lt.mp c1, Int32.not_lt.mp c2⟩, c4⟩
              have hB : mlB S k l = -slo S l := if_neg (fun q => c4 q.2)
              refine dn_run 10 (show (vp_in (nI l) 60) ∧ (vp_in (nI l) 60) ∧ tkDn tm_151 (76, [some (.inr (.inr (6, 0, 0))), some (.inl k), some (.inl (nI l)), some (.inl (sgn S l)), some (.inl 1), some (.inl 0)], [.inl 1, .inl (I 6 0 5 ((nI l).toNatClampNeg)), .inl (I 6 0 4 ((nI l).toNatClampNeg)), .inr (.inr (6, 0, 0))], (I, tk_so J 6 0 (tk_u1 (J 6 0) 21 r), R)) _ from ⟨vp_in_nI (by omega) (by omega), vp_in_nI (by omega) (by omega), ?_⟩)
              rw [e4, e5]
              show tkDn tm_151 (76, [some (.inr (.inr (6, 0, 0))), some (.inl k), some (.inl (nI l)), some (.inl (sgn S l)), some (.inl 1), some (.inl 0)], [.inl 1, .inl (nI (se S l)), .inl (nI (sf S l)), .inr (.inr (6, 0, 0))], (I, tk_so J 6 0 (tk_u1 (J 6 0) 21 r), R)) _
              refine dn_if rfl rfl rfl (fun (cd : ((1 : Int32) = 0 : Prop)) => ?_) (fun (cd : (¬ (1 : Int32) = 0 : Prop)) => ?_)
              · exact absurd cd (by decide)
              · show tkDn tm_151 (79, [some (.inr (.inr (6, 0, 0))), some (.inl k), some (.inl (nI l)), some (.inl (sgn S l)), some (.inl 1), some (.inl 0)], [.inl (nI (se S l)), .inl (nI (sf S l)), .inr (.inr (6, 0, 0))], (I, tk_so J 6 0 (tk_u1 (J 6 0) 21 r), R)) _
                refine dn_run 1 (show tkDn tm_151 (81, [some (.inr (.inr (6, 0, 0))), some (.inl k), some (.inl (nI l)), some (.inl (sgn S l)), some (.inl 1), some (.inl 0)], [.inl 0, .inl (nI (se S l)), .inl (nI (sf S l)), .inr (.inr (6, 0, 0))], (I, tk_so J 6 0 (tk_u1 (J 6 0) 21 r), R)) _ from ?_)
                refine dn_if rfl rfl rfl (fun (ce : (¬ (0 : Int32) = 0 : Prop)) => ?_) (fun (ce : ((0 : Int32) = 0 : Prop)) => ?_)
                · exact absurd rfl ce
                · show tkDn tm_151 (84, [some (.inr (.inr (6, 0, 0))), some (.inl k), some (.inl (nI l)), some (.inl (sgn S l)), some (.inl 1), some (.inl 0)], [.inl (nI (se S l)), .inl (nI (sf S l)), .inr (.inr (6, 0, 0))], (I, tk_so J 6 0 (tk_u1 (J 6 0) 21 r), R)) _
                  refine dn_run 6 (show (vp_in (nI l) 60) ∧ tkDn tm_151 (101, [some (.inr (.inr (6, 0, 0))), some (.inl k), some (.inl (nI l)), some (.inl (sgn S l)), some (.inl 1), some (.inl 0)], [.inr (.inl (((I 6 0 6 ((nI l).toNatClampNeg)) : Int32).toInt64)), .inl (nI (se S l)), .inl (nI (sf S l)), .inr (.inr (6, 0, 0))], (I, tk_so J 6 0 (tk_u1 (J 6 0) 21 r), R)) _ from ⟨vp_in_nI (by omega) (by omega), ?_⟩)
                  rw [e6]
                  show tkDn tm_151 (101, [some (.inr (.inr (6, 0, 0))), some (.inl k), some (.inl (nI l)), some (.inl (sgn S l)), some (.inl 1), some (.inl 0)], [.inr (.inl ((slo S l).toInt64)), .inl (nI (se S l)), .inl (nI (sf S l)), .inr (.inr (6, 0, 0))], (I, tk_so J 6 0 (tk_u1 (J 6 0) 21 r), R)) _
                  refine dn_call rfl rfl rfl rfl rfl (sm_step (by omega) (by omega) ?_)
                  rw [tk_so_so, tk_so_same, tk_u1_u1, tk_u1_same, ← hA]
                  show tkDn tm_151 (104, [some (.inr (.inr (6, 0, 0))), some (.inl k), some (.inl (nI l)), some (.inl (sgn S l)), some (.inl 1), some (.inl 0)], [], (I, tk_so J 6 0 (tk_u1 (J 6 0) 21 (low1 r (16 * sf S l + se S l) (mlA S k l).toInt64)), R)) _
                  refine dn_run 10 (show (vp_in (nI l) 60) ∧ (vp_in (nI l) 60) ∧ tkDn tm_151 (119, [some (.inr (.inr (6, 0, 0))), some (.inl k), some (.inl (nI l)), some (.inl (sgn S l)), some (.inl 1), some (.inl 0)], [.inl 0, .inl (I 6 0 4 ((nI l).toNatClampNeg)), .inl (I 6 0 5 ((nI l).toNatClampNeg)), .inr (.inr (6, 0, 0))], (I, tk_so J 6 0 (tk_u1 (J 6 0) 21 (low1 r (16 * sf S l + se S l) (mlA S k l).toInt64)), R)) _ from ⟨vp_in_nI (by omega) (by omega), vp_in_nI (by omega) (by omega), ?_⟩)
                  rw [e5, e4]
                  show tkDn tm_151 (119, [some (.inr (.inr (6, 0, 0))), some (.inl k), some (.inl (nI l)), some (.inl (sgn S l)), some (.inl 1), some (.inl 0)], [.inl 0, .inl (nI (sf S l)), .inl (nI (se S l)), .inr (.inr (6, 0, 0))], (I, tk_so J 6 0 (tk_u1 (J 6 0) 21 (low1 r (16 * sf S l + se S l) (mlA S k l).toInt64)), R)) _
                  refine dn_if rfl rfl rfl (fun (cc : ((0 : Int32) = 0 : Prop)) => ?_) (fun (cc : (¬ (0 : Int32) = 0 : Prop)) => ?_)
                  · show tkDn tm_151 (133, [some (.inr (.inr (6, 0, 0))), some (.inl k), some (.inl (nI l)), some (.inl (sgn S l)), some (.inl 1), some (.inl 0)], [.inl (nI (sf S l)), .inl (nI (se S l)), .inr (.inr (6, 0, 0))], (I, tk_so J 6 0 (tk_u1 (J 6 0) 21 (low1 r (16 * sf S l + se S l) (mlA S k l).toInt64)), R)) _
                    refine dn_run 6 (show (vp_in (nI l) 60) ∧ tkDn tm_151 (141, [some (.inr (.inr (6, 0, 0))), some (.inl k), some (.inl (nI l)), some (.inl (sgn S l)), some (.inl 1), some (.inl 0)], [.inr (.inl (((-(I 6 0 6 ((nI l).toNatClampNeg))) : Int32).toInt64)), .inl (nI (sf S l)), .inl (nI (se S l)), .inr (.inr (6, 0, 0))], (I, tk_so J 6 0 (tk_u1 (J 6 0) 21 (low1 r (16 * sf S l + se S l) (mlA S k l).toInt64)), R)) _ from ⟨vp_in_nI (by omega) (by omega), ?_⟩)
                    rw [e6]
                    show tkDn tm_151 (141, [some (.inr (.inr (6, 0, 0))), some (.inl k), some (.inl (nI l)), some (.inl (sgn S l)), some (.inl 1), some (.inl 0)], [.inr (.inl ((-slo S l).toInt64)), .inl (nI (sf S l)), .inl (nI (se S l)), .inr (.inr (6, 0, 0))], (I, tk_so J 6 0 (tk_u1 (J 6 0) 21 (low1 r (16 * sf S l + se S l) (mlA S k l).toInt64)), R)) _
                    refine dn_call rfl rfl rfl rfl rfl (sm_step (by omega) (by omega) ?_)
                    rw [tk_so_so, tk_so_same, tk_u1_u1, tk_u1_same, ← hB]
                    show tkDn tm_151 (144, [some (.inr (.inr (6, 0, 0))), some (.inl k), some (.inl (nI l)), some (.inl (sgn S l)), some (.inl 1), some (.inl 0)], [], (I, tk_so J 6 0 (tk_u1 (J 6 0) 21 (low1 (low1 r (16 * sf S l + se S l) (mlA S k l).toInt64) (16 * se S l + sf S l) (mlB S k l).toInt64)), R)) _
                    refine dn_run 2 (show tkDn tm_151 (10, [some (.inr (.inr (6, 0, 0))), some (.inl k), some (.inl ((nI l) + 1)), some (.inl (sgn S l)), some (.inl 1), some (.inl 0)], [], (I, tk_so J 6 0 (tk_u1 (J 6 0) 21 (low1 (low1 r (16 * sf S l + se S l) (mlA S k l).toInt64) (16 * se S l + sf S l) (mlB S k l).toInt64)), R)) _ from ?_)
                    rw [nI_1]
                    exact ih (l + 1) _ _ _ _ (by omega) ((hr.low (by omega) hf he).low (by omega) he hf)
                  · exact absurd rfl cc
            · show tkDn tm_151 (54, [some (.inr (.inr (6, 0, 0))), some (.inl k), some (.inl (nI l)), some (.inl (sgn S l)), some (.inl 1), o5], [], (I, tk_so J 6 0 (tk_u1 (J 6 0) 21 r), R)) _
              refine dn_run 3 (show tkDn tm_151 (61, [some (.inr (.inr (6, 0, 0))), some (.inl k), some (.inl (nI l)), some (.inl (sgn S l)), some (.inl 1), some (.inl 1)], [], (I, tk_so J 6 0 (tk_u1 (J 6 0) 21 r), R)) _ from ?_)
              have hA : mlA S k l = shi S l := if_neg (fun q => q.2 c4)
              have hB : mlB S k l = -shi S l := if_pos ⟨⟨Int32.not_lt.mp c1, Int32.not_lt.mp c2⟩, c4⟩
              refine dn_run 10 (show (vp_in (nI l) 60) ∧ (vp_in (nI l) 60) ∧ tkDn tm_151 (76, [some (.inr (.inr (6, 0, 0))), some (.inl k), some (.inl (nI l)), some (.inl (sgn S l)), some (.inl 1), some (.inl 1)], [.inl 1, .inl (I 6 0 5 ((nI l).toNatClampNeg)), .inl (I 6 0 4 ((nI l).toNatClampNeg)), .inr (.inr (6, 0, 0))], (I, tk_so J 6 0 (tk_u1 (J 6 0) 21 r), R)) _ from ⟨vp_in_nI (by omega) (by omega), vp_in_nI (by omega) (by omega), ?_⟩)
              rw [e4, e5]
              show tkDn tm_151 (76, [some (.inr (.inr (6, 0, 0))), some (.inl k), some (.inl (nI l)), some (.inl (sgn S l)), some (.inl 1), some (.inl 1)], [.inl 1, .inl (nI (se S l)), .inl (nI (sf S l)), .inr (.inr (6, 0, 0))], (I, tk_so J 6 0 (tk_u1 (J 6 0) 21 r), R)) _
              refine dn_if rfl rfl rfl (fun (cd : ((1 : Int32) = 0 : Prop)) => ?_) (fun (cd : (¬ (1 : Int32) = 0 : Prop)) => ?_)
              · exact absurd cd (by decide)
              · show tkDn tm_151 (79, [some (.inr (.inr (6, 0, 0))), some (.inl k), some (.inl (nI l)), some (.inl (sgn S l)), some (.inl 1), some (.inl 1)], [.inl (nI (se S l)), .inl (nI (sf S l)), .inr (.inr (6, 0, 0))], (I, tk_so J 6 0 (tk_u1 (J 6 0) 21 r), R)) _
                refine dn_run 1 (show tkDn tm_151 (81, [some (.inr (.inr (6, 0, 0))), some (.inl k), some (.inl (nI l)), some (.inl (sgn S l)), some (.inl 1), some (.inl 1)], [.inl 1, .inl (nI (se S l)), .inl (nI (sf S l)), .inr (.inr (6, 0, 0))], (I, tk_so J 6 0 (tk_u1 (J 6 0) 21 r), R)) _ from ?_)
                refine dn_if rfl rfl rfl (fun (ce : (¬ (1 : Int32) = 0 : Prop)) => ?_) (fun (ce : ((1 : Int32) = 0 : Prop)) => ?_)
                · show tkDn tm_151 (94, [some (.inr (.inr (6, 0, 0))), some (.inl k), some (.inl (nI l)), some (.inl (sgn S l)), some (.inl 1), some (.inl 1)], [.inl (nI (se S l)), .inl (nI (sf S l)), .inr (.inr (6, 0, 0))], (I, tk_so J 6 0 (tk_u1 (J 6 0) 21 r), R)) _
                  refine dn_run 5 (show (vp_in (nI l) 60) ∧ tkDn tm_151 (101, [some (.inr (.inr (6, 0, 0))), some (.inl k), some (.inl (nI l)), some (.inl (sgn S l)), some (.inl 1), some (.inl 1)], [.inr (.inl (((I 6 0 7 ((nI l).toNatClampNeg)) : Int32).toInt64)), .inl (nI (se S l)), .inl (nI (sf S l)), .inr (.inr (6, 0, 0))], (I, tk_so J 6 0 (tk_u1 (J 6 0) 21 r), R)) _ from ⟨vp_in_nI (by omega) (by omega), ?_⟩)
                  rw [e7]
                  show tkDn tm_151 (101, [some (.inr (.inr (6, 0, 0))), some (.inl k), some (.inl (nI l)), some (.inl (sgn S l)), some (.inl 1), some (.inl 1)], [.inr (.inl ((shi S l).toInt64)), .inl (nI (se S l)), .inl (nI (sf S l)), .inr (.inr (6, 0, 0))], (I, tk_so J 6 0 (tk_u1 (J 6 0) 21 r), R)) _
                  refine dn_call rfl rfl rfl rfl rfl (sm_step (by omega) (by omega) ?_)
                  rw [tk_so_so, tk_so_same, tk_u1_u1, tk_u1_same, ← hA]
                  show tkDn tm_151 (104, [some (.inr (.inr (6, 0, 0))), some (.inl k), some (.inl (nI l)), some (.inl (sgn S l)), some (.inl 1), some (.inl 1)], [], (I, tk_so J 6 0 (tk_u1 (J 6 0) 21 (low1 r (16 * sf S l + se S l) (mlA S k l).toInt64)), R)) _
                  refine dn_run 10 (show (vp_in (nI l) 60) ∧ (vp_in (nI l) 60) ∧ tkDn tm_151 (119, [some (.inr (.inr (6, 0, 0))), some (.inl k), some (.inl (nI l)), some (.inl (sgn S l)), some (.inl 1), some (.inl 1)], [.inl 1, .inl (I 6 0 4 ((nI l).toNatClampNeg)), .inl (I 6 0 5 ((nI l).toNatClampNeg)), .inr (.inr (6, 0, 0))], (I, tk_so J 6 0 (tk_u1 (J 6 0) 21 (low1 r (16 * sf S l + se S l) (mlA S k l).toInt64)), R)) _ from ⟨vp_in_nI (by omega) (by omega), vp_in_nI (by omega) (by omega), ?_⟩)
                  rw [e5, e4]
                  show tkDn tm_151 (119, [some (.inr (.inr (6, 0, 0))), some (.inl k), some (.inl (nI l)), some (.inl (sgn S l)), some (.inl 1), some (.inl 1)], [.inl 1, .inl (nI (sf S l)), .inl (nI (se S l)), .inr (.inr (6, 0, 0))], (I, tk_so J 6 0 (tk_u1 (J 6 0) 21 (low1 r (16 * sf S l + se S l) (mlA S k l).toInt64)), R)) _
                  refine dn_if rfl rfl rfl (fun (cc : ((1 : Int32) = 0 : Prop)) => ?_) (fun (cc : (¬ (1 : Int32) = 0 : Prop)) => ?_)
                  · exact absurd cc (by decide)
                  · show tkDn tm_151 (122, [some (.inr (.inr (6, 0, 0))), some (.inl k), some (.inl (nI l)), some (.inl (sgn S l)), some (.inl 1), some (.inl 1)], [.inl (nI (sf S l)), .inl (nI (se S l)), .inr (.inr (6, 0, 0))], (I, tk_so J 6 0 (tk_u1 (J 6 0) 21 (low1 r (16 * sf S l + se S l) (mlA S k l).toInt64)), R)) _
                    refine dn_run 7 (show (vp_in (nI l) 60) ∧ tkDn tm_151 (141, [some (.inr (.inr (6, 0, 0))), some (.inl k), some (.inl (nI l)), some (.inl (sgn S l)), some (.inl 1), some (.inl 1)], [.inr (.inl (((-(I 6 0 7 ((nI l).toNatClampNeg))) : Int32).toInt64)), .inl (nI (sf S l)), .inl (nI (se S l)), .inr (.inr (6, 0, 0))], (I, tk_so J 6 0 (tk_u1 (J 6 0) 21 (low1 r (16 * sf S l + se S l) (mlA S k l).toInt64)), R)) _ from ⟨vp_in_nI (by omega) (by omega), ?_⟩)
                    rw [e7]
                    show tkDn tm_151 (141, [some (.inr (.inr (6, 0, 0))), some (.inl k), some (.inl (nI l)), some (.inl (sgn S l)), some (.inl 1), some (.inl 1)], [.inr (.inl ((-shi S l).toInt64)), .inl (nI (sf S l)), .inl (nI (se S l)), .inr (.inr (6, 0, 0))], (I, tk_so J 6 0 (tk_u1 (J 6 0) 21 (low1 r (16 * sf S l + se S l) (mlA S k l).toInt64)), R)) _
                    refine dn_call rfl rfl rfl rfl rfl (sm_step (by omega) (by omega) ?_)
                    rw [tk_so_so, tk_so_same, tk_u1_u1, tk_u1_same, ← hB]
                    show tkDn tm_151 (144, [some (.inr (.inr (6, 0, 0))), some (.inl k), some (.inl (nI l)), some (.inl (sgn S l)), some (.inl 1), some (.inl 1)], [], (I, tk_so J 6 0 (tk_u1 (J 6 0) 21 (low1 (low1 r (16 * sf S l + se S l) (mlA S k l).toInt64) (16 * se S l + sf S l) (mlB S k l).toInt64)), R)) _
                    refine dn_run 2 (show tkDn tm_151 (10, [some (.inr (.inr (6, 0, 0))), some (.inl k), some (.inl ((nI l) + 1)), some (.inl (sgn S l)), some (.inl 1), some (.inl 1)], [], (I, tk_so J 6 0 (tk_u1 (J 6 0) 21 (low1 (low1 r (16 * sf S l + se S l) (mlA S k l).toInt64) (16 * se S l + sf S l) (mlB S k l).toInt64)), R)) _ from ?_)
                    rw [nI_1]
                    exact ih (l + 1) _ _ _ _ (by omega) ((hr.low (by omega) hf he).low (by omega) he hf)
                · exact absurd ce (by decide)
set_option maxRecDepth 8000 in
theorem sm_layLinks {I : tkI} {J : tkJ} {R : Nat → Nat} {Q : tkQ} {S : tkS} (hP : NetP (I 6 0) S) (w : WF S) {k : Int32} (hQ : ∀ r, RowP (sM S) r (mlM S k (sL S)) → Q none (I, tk_so J 6 0 (tk_u1 (J 6 0) 21 r), R)) : tkDn tm_151 (0, [some (.inr (.inr (6, 0, 0))), some (.inl k), none, none, none, none], [], (I, J, R)) Q := by
  have hM16 := w.1
  have hL60 := w.2.1
  have hG6 := w.2.2.1
  have hM := hP.m
  have hL := hP.l
  have hG := hP.g
  refine dn_run 3 (show tkDn tm_151 (5, [some (.inr (.inr (6, 0, 0))), some (.inl k), none, none, none, none], [.inl (I 6 0 0 0), .inr (.inr (6, 0, 0))], (I, J, R)) _ from ?_)
  rw [hM]
  show tkDn tm_151 (5, [some (.inr (.inr (6, 0, 0))), some (.inl k), none, none, none, none], [.inl (nI (sM S)), .inr (.inr (6, 0, 0))], (I, J, R)) _
  refine dn_call rfl rfl rfl rfl rfl (sm_clearWays hM16 (fun r hr => ?_))
  show tkDn tm_151 (8, [some (.inr (.inr (6, 0, 0))), some (.inl k), none, none, none, none], [], (I, tk_so J 6 0 (tk_u1 (J 6 0) 21 r), R)) _
  refine dn_run 2 (show tkDn tm_151 (10, [some (.inr (.inr (6, 0, 0))), some (.inl k), some (.inl 0), none, none, none], [], (I, tk_so J 6 0 (tk_u1 (J 6 0) 21 r), R)) _ from ?_)
  exact sm_layLinks_loop hP w hQ (sL S) 0 r none none none (Nat.zero_add _) hr
set_option maxRecDepth 8000 in
theorem sm_together {I : tkI} {J : tkJ} {R : Nat → Nat} {Q : tkQ} {S : tkS} (hP : NetP (I 6 0) S) (w : WF S) (hQ : ∀ r, RowP (sM S) r (mtog S (-1)).2 → Q (some (.inl (if (mtog S (-1)).1 = true then 1 else 0))) (I, tk_so J 6 0 (tk_u1 (J 6 0) 21 r), R)) : tkDn tm_152 (0, [some (.inr (.inr (6, 0, 0)))], [], (I, J, R)) Q := by
  have hM16 := w.1
  have hL60 := w.2.1
  have hG6 := w.2.2.1
  have hM := hP.m
  have hL := hP.l
  have hG := hP.g
  refine dn_run 2 (show tkDn tm_152 (2, [some (.inr (.inr (6, 0, 0)))], [.inl (-1), .inr (.inr (6, 0, 0))], (I, J, R)) _ from ?_)
  refine dn_call rfl rfl rfl rfl rfl (sm_layLinks hP w (fun r hr => ?_))
  show tkDn tm_152 (5, [some (.inr (.inr (6, 0, 0)))], [], (I, tk_so J 6 0 (tk_u1 (J 6 0) 21 r), R)) _
  refine dn_run 3 (show tkDn tm_152 (10, [some (.inr (.inr (6, 0, 0)))], [.inl (I 6 0 0 0), .inr (.inr (6, 0, 0))], (I, tk_so J 6 0 (tk_u1 (J 6 0) 21 r), R)) _ from ?_)
  rw [hM]
  show tkDn tm_152 (10, [some (.inr (.inr (6, 0, 0)))], [.inl (nI (sM S)), .inr (.inr (6, 0, 0))], (I, tk_so J 6 0 (tk_u1 (J 6 0) 21 r), R)) _
  refine dn_call rfl rfl rfl rfl rfl (sm_closes (d := mlM S (-1) (sL S)) (Nat.le_refl _) hM16 hr (fun r3 hr3 => ?_))
  rw [tk_so_so, tk_so_same, tk_u1_u1]
  show tkDn tm_152 (13, [some (.inr (.inr (6, 0, 0)))], [.inl (if (mcF (mlM S (-1) (sL S)) (sM S)).1 = true then 1 else 0)], (I, tk_so J 6 0 (tk_u1 (J 6 0) 21 r3), R)) _
  refine dn_if rfl rfl rfl (fun (c : (if (mcF (mlM S (-1) (sL S)) (sM S)).1 = true then 1 else 0) = 0) => ?_) (fun (c : ¬ (if (mcF (mlM S (-1) (sL S)) (sM S)).1 = true then 1 else 0) = 0) => ?_)
  · show tkDn tm_152 (20, [some (.inr (.inr (6, 0, 0)))], [], (I, tk_so J 6 0 (tk_u1 (J 6 0) 21 r3), R)) _
    refine dn_run 1 (show tkDn tm_152 (21, [some (.inr (.inr (6, 0, 0)))], [.inl 0], (I, tk_so J 6 0 (tk_u1 (J 6 0) 21 r3), R)) _ from ?_)
    refine dn_ret0 rfl rfl rfl rfl ?_
    have e : ¬ (mtog S (-1)).1 = true := fun q => by rw [show (mcF (mlM S (-1) (sL S)) (sM S)).1 = true from q] at c; exact absurd c (by decide)
    have := hQ r3 hr3
    rw [if_neg e] at this
    exact this
  · show tkDn tm_152 (16, [some (.inr (.inr (6, 0, 0)))], [], (I, tk_so J 6 0 (tk_u1 (J 6 0) 21 r3), R)) _
    refine dn_run 2 (show tkDn tm_152 (21, [some (.inr (.inr (6, 0, 0)))], [.inl 1], (I, tk_so J 6 0 (tk_u1 (J 6 0) 21 r3), R)) _ from ?_)
    refine dn_ret0 rfl rfl rfl rfl ?_
    have e : (mtog S (-1)).1 = true := by by_cases q : (mtog S (-1)).1 = true; exact q; exact absurd (if_neg q) c
    have := hQ r3 hr3
    rw [if_pos e] at this
    exact this
def mdis (S : tkS) (u v : Int32) : Int64 := if hasM S u ∧ hasM S v then (if (mtog S (-1)).1 = true then (mtog S (-1)).2 u.toNatClampNeg v.toNatClampNeg else 0) else 0
set_option maxRecDepth 8000 in
theorem sm_distance {I : tkI} {J : tkJ} {R : Nat → Nat} {Q : tkQ} {S : tkS} (hP : NetP (I 6 0) S) (w : WF S) {u v : Int32} (hQ : ∀ r, Q (some (.inr (.inl (mdis S u v)))) (I, tk_so J 6 0 (tk_u1 (J 6 0) 21 r), R)) : tkDn tm_153 (0, [some (.inr (.inr (6, 0, 0))), some (.inl u), some (.inl v)], [], (I, J, R)) Q := by
  have hM16 := w.1
  have hL60 := w.2.1
  have hG6 := w.2.2.1
  have hM := hP.m
  have hL := hP.l
  have hG := hP.g
  refine dn_run 2 (show tkDn tm_153 (2, [some (.inr (.inr (6, 0, 0))), some (.inl u), some (.inl v)], [.inl u, .inr (.inr (6, 0, 0))], (I, J, R)) _ from ?_)
  refine dn_call rfl rfl rfl rfl rfl (sm_noMoment hP w ?_)
  show tkDn tm_153 (5, [some (.inr (.inr (6, 0, 0))), some (.inl u), some (.inl v)], [.inl (if hasM S u then 0 else 1)], (I, J, R)) _
  refine dn_if rfl rfl rfl (fun (c1 : ¬ (if hasM S u then 0 else 1) = 0) => ?_) (fun (c1 : (if hasM S u then 0 else 1) = 0) => ?_)
  · show tkDn tm_153 (16, [some (.inr (.inr (6, 0, 0))), some (.inl u), some (.inl v)], [], (I, J, R)) _
    refine dn_run 1 (show tkDn tm_153 (17, [some (.inr (.inr (6, 0, 0))), some (.inl u), some (.inl v)], [.inr (.inl 0)], (I, J, R)) _ from ?_)
    refine dn_ret0 rfl rfl rfl rfl ?_
    have := hQ (J 6 0 21)
    rw [jr_id] at this
    rw [show mdis S u v = 0 from if_neg (fun q => by rw [if_pos q.1] at c1; exact absurd rfl c1)] at this
    exact this
  · show tkDn tm_153 (8, [some (.inr (.inr (6, 0, 0))), some (.inl u), some (.inl v)], [], (I, J, R)) _
    have k1 : hasM S u := by by_cases q : hasM S u; exact q; rw [if_neg q] at c1; exact absurd c1 (by decide)
    refine dn_run 2 (show tkDn tm_153 (10, [some (.inr (.inr (6, 0, 0))), some (.inl u), some (.inl v)], [.inl v, .inr (.inr (6, 0, 0))], (I, J, R)) _ from ?_)
    refine dn_call rfl rfl rfl rfl rfl (sm_noMoment hP w ?_)
    show tkDn tm_153 (13, [some (.inr (.inr (6, 0, 0))), some (.inl u), some (.inl v)], [.inl (if hasM S v then 0 else 1)], (I, J, R)) _
    refine dn_if rfl rfl rfl (fun (c2 : (if hasM S v then 0 else 1) = 0) => ?_) (fun (c2 : ¬ (if hasM S v then 0 else 1) = 0) => ?_)
    · show tkDn tm_153 (18, [some (.inr (.inr (6, 0, 0))), some (.inl u), some (.inl v)], [], (I, J, R)) _
      have k2 : hasM S v := by by_cases q : hasM S v; exact q; rw [if_neg q] at c2; exact absurd c2 (by decide)
      refine dn_run 1 (show tkDn tm_153 (19, [some (.inr (.inr (6, 0, 0))), some (.inl u), some (.inl v)], [.inr (.inr (6, 0, 0))], (I, J, R)) _ from ?_)
      refine dn_call rfl rfl rfl rfl rfl (sm_together hP w (fun r hr => ?_))
      show tkDn tm_153 (22, [some (.inr (.inr (6, 0, 0))), some (.inl u), some (.inl v)], [.inl (if (mtog S (-1)).1 = true then 1 else 0)], (I, tk_so J 6 0 (tk_u1 (J 6 0) 21 r), R)) _
      refine dn_run 1 (show tkDn tm_153 (23, [some (.inr (.inr (6, 0, 0))), some (.inl u), some (.inl v)], [.inl 1, .inl (if (mtog S (-1)).1 = true then 1 else 0)], (I, tk_so J 6 0 (tk_u1 (J 6 0) 21 r), R)) _ from ?_)
      refine dn_if rfl rfl rfl (fun (c3 : ¬ (if (mtog S (-1)).1 = true then 1 else 0) = 1) => ?_) (fun (c3 : (if (mtog S (-1)).1 = true then 1 else 0) = 1) => ?_)
      · show tkDn tm_153 (40, [some (.inr (.inr (6, 0, 0))), some (.inl u), some (.inl v)], [], (I, tk_so J 6 0 (tk_u1 (J 6 0) 21 r), R)) _
        refine dn_run 1 (show tkDn tm_153 (41, [some (.inr (.inr (6, 0, 0))), some (.inl u), some (.inl v)], [.inr (.inl 0)], (I, tk_so J 6 0 (tk_u1 (J 6 0) 21 r), R)) _ from ?_)
        refine dn_ret0 rfl rfl rfl rfl ?_
        have e : ¬ (mtog S (-1)).1 = true := fun q => c3 (if_pos q)
        rw [show mdis S u v = 0 by unfold mdis; rw [if_pos ⟨k1, k2⟩, if_neg e]] at hQ
        exact hQ r
      · show tkDn tm_153 (26, [some (.inr (.inr (6, 0, 0))), some (.inl u), some (.inl v)], [], (I, tk_so J 6 0 (tk_u1 (J 6 0) 21 r), R)) _
        have e : (mtog S (-1)).1 = true := by by_cases q : (mtog S (-1)).1 = true; exact q; rw [if_neg q] at c3; exact absurd c3 (by decide)
        rw [show mdis S u v = (mtog S (-1)).2 u.toNatClampNeg v.toNatClampNeg by unfold mdis; rw [if_pos ⟨k1, k2⟩, if_pos e]] at hQ
        obtain ⟨u, hu, rfl, hu2⟩ := hasM_nat hM16 k1
        obtain ⟨v, hv, rfl, hv2⟩ := hasM_nat hM16 k2
        rw [hu2, hv2] at hQ
        show tkDn tm_153 (26, [some (.inr (.inr (6, 0, 0))), some (.inl (nI u)), some (.inl (nI v))], [], (I, tk_so J 6 0 (tk_u1 (J 6 0) 21 r), R)) _
        refine dn_run 9 (show (vp_in ((16 * (nI u)) + (nI v)) 256) ∧ tkDn tm_153 (41, [some (.inr (.inr (6, 0, 0))), some (.inl (nI u)), some (.inl (nI v))], [.inr (.inl (r (((16 * (nI u)) + (nI v)).toNatClampNeg)))], (I, tk_so J 6 0 (tk_u1 (J 6 0) 21 r), R)) _ from ⟨by rw [ix16']; exact vp_in_nI (by omega) (by omega), ?_⟩)
        rw [ix16', hr.at hM16 hu hv]
        refine dn_ret0 rfl rfl rfl rfl ?_
        exact hQ r
    · show tkDn tm_153 (16, [some (.inr (.inr (6, 0, 0))), some (.inl u), some (.inl v)], [], (I, J, R)) _
      refine dn_run 1 (show tkDn tm_153 (17, [some (.inr (.inr (6, 0, 0))), some (.inl u), some (.inl v)], [.inr (.inl 0)], (I, J, R)) _ from ?_)
      refine dn_ret0 rfl rfl rfl rfl ?_
      have := hQ (J 6 0 21)
      rw [jr_id] at this
      rw [show mdis S u v = 0 from if_neg (fun q => by rw [if_pos q.2] at c2; exact absurd rfl c2)] at this
      exact this
set_option maxRecDepth 8000 in
theorem sm_findRoot_loop {I : tkI} {J : tkJ} {R : Nat → Nat} {Q : tkQ} {S : tkS} (hP : NetP (I 6 0) S) (w : WF S) {m : Nat} : ∀ n t acc X o, up S n t = none → t < sM S → X 0 21 = nI t → X 0 22 = acc → mRoot (I 6 0) X → (∀ Y, Y 0 21 = nI (rtF S n t) → Y 0 22 = gbF S n t acc → mRoot (I 6 0) Y → Q none (tk_so I 6 0 Y, J, R)) → tkDn tm_154 (10, [some (.inr (.inr (6, 0, 0))), some (.inl (nI m)), o], [], (tk_so I 6 0 X, J, R)) Q := by
  have hM16 := w.1
  have hG6 := w.2.2.1
  have hL60 := w.2.1
  intro n
  induction n with
  | zero =>
    intro t acc X o h
    cases h
  | succ n ih =>
    intro t acc X o hu ht h21 h22 hX hQ
    have hPX : NetP (tk_so I 6 0 X 6 0) S := by rw [tk_so_same]; exact hX.net hP
    show tkDn tm_154 (10, [some (.inr (.inr (6, 0, 0))), some (.inl (nI m)), o], [], (tk_so I 6 0 X, J, R)) _
    refine dn_run 3 (show tkDn tm_154 (15, [some (.inr (.inr (6, 0, 0))), some (.inl (nI m)), o], [.inl (X 0 21), .inr (.inr (6, 0, 0))], (tk_so I 6 0 X, J, R)) _ from ?_)
    rw [h21]
    show tkDn tm_154 (15, [some (.inr (.inr (6, 0, 0))), some (.inl (nI m)), o], [.inl (nI t), .inr (.inr (6, 0, 0))], (tk_so I 6 0 X, J, R)) _
    refine dn_call rfl rfl rfl rfl rfl (sm_giftTo hPX w (by omega) ?_)
    show tkDn tm_154 (18, [some (.inr (.inr (6, 0, 0))), some (.inl (nI m)), o], [.inl (if gt S t < sG S then nI (gt S t) else -1)], (tk_so I 6 0 X, J, R)) _
    refine dn_if rfl rfl rfl (fun (c2 : (if gt S t < sG S then nI (gt S t) else -1) < 0) => ?_) (fun (c2 : ¬ (if gt S t < sG S then nI (gt S t) else -1) < 0) => ?_)
    · show tkDn tm_154 (60, [some (.inr (.inr (6, 0, 0))), some (.inl (nI m)), o], [], (tk_so I 6 0 X, J, R)) _
      have hg : ¬ gt S t < sG S := fun q => by rw [if_pos q] at c2; exact nI_pos (by omega) c2
      refine dn_ret0 rfl rfl rfl rfl ?_
      exact hQ X (by rw [show rtF S (n + 1) t = t from if_neg hg]; exact h21) (by rw [show gbF S (n + 1) t acc = acc from if_neg hg]; exact h22) hX
    · show tkDn tm_154 (21, [some (.inr (.inr (6, 0, 0))), some (.inl (nI m)), o], [], (tk_so I 6 0 X, J, R)) _
      have hg : gt S t < sG S := by by_cases q : gt S t < sG S; exact q; rw [if_neg q] at c2; exact absurd (by decide) c2
      have hl := w.gl hg
      have h1 : X 9 (nI (gt S t)).toNatClampNeg = nI (sgl S (gt S t)) := (hX.net hP).gl w hg
      have h2 : X 4 (nI (sgl S (gt S t))).toNatClampNeg = nI (sf S (sgl S (gt S t))) := (hX.net hP).fr w hl
      refine dn_run 3 (show tkDn tm_154 (26, [some (.inr (.inr (6, 0, 0))), some (.inl (nI m)), o], [.inl (X 0 21), .inr (.inr (6, 0, 0))], (tk_so I 6 0 X, J, R)) _ from ?_)
      rw [h21]
      show tkDn tm_154 (26, [some (.inr (.inr (6, 0, 0))), some (.inl (nI m)), o], [.inl (nI t), .inr (.inr (6, 0, 0))], (tk_so I 6 0 X, J, R)) _
      refine dn_call rfl rfl rfl rfl rfl (sm_giftTo hPX w (by omega) ?_)
      show tkDn tm_154 (29, [some (.inr (.inr (6, 0, 0))), some (.inl (nI m)), o], [.inl (if gt S t < sG S then nI (gt S t) else -1)], (tk_so I 6 0 X, J, R)) _
      rw [if_pos hg]
      show tkDn tm_154 (29, [some (.inr (.inr (6, 0, 0))), some (.inl (nI m)), o], [.inl (nI (gt S t))], (tk_so I 6 0 X, J, R)) _
      refine dn_run 19 (show (vp_in (nI (gt S t)) 6) ∧ (vp_in (X 9 ((nI (gt S t)).toNatClampNeg)) 60) ∧ tkDn tm_154 (10, [some (.inr (.inr (6, 0, 0))), some (.inl (nI m)), some (.inl (nI (gt S t)))], [], (tk_so (tk_so (tk_so I 6 0 X) 6 0 (tk_u2 X 0 22 ((X 0 22) ||| (1 <<< ((nI (gt S t)) &&& 31))))) 6 0 (tk_u2 (tk_u2 X 0 22 ((X 0 22) ||| (1 <<< ((nI (gt S t)) &&& 31)))) 0 21 (X 4 ((X 9 ((nI (gt S t)).toNatClampNeg)).toNatClampNeg))), J, R)) _ from ⟨vp_in_nI (by omega) (by omega), by show vp_in (X 9 _) 60; rw [h1]; exact vp_in_nI (by omega) (by omega), ?_⟩)
      rw [tk_so_so, tk_so_so]
      rw [h1, h2]
      refine ih (sf S (sgl S (gt S t))) (acc ||| (1 <<< (nI (gt S t) &&& 31))) _ _ (by rw [show up S (n + 1) t = up S n (sf S (sgl S (gt S t))) from if_pos hg] at hu; exact hu) (w.fM hl) (by rw [tk_u2_1]) (by rw [tk_u2_0 (by decide), tk_u2_1, h22]) ((hX.u (Or.inr rfl)).u (Or.inl rfl)) ?_
      rw [show rtF S (n + 1) t = rtF S n (sf S (sgl S (gt S t))) from if_pos hg, show gbF S (n + 1) t acc = gbF S n (sf S (sgl S (gt S t))) (acc ||| (1 <<< (nI (gt S t) &&& 31))) from if_pos hg] at hQ
      exact hQ
set_option maxRecDepth 8000 in
theorem sm_findRoot {I : tkI} {J : tkJ} {R : Nat → Nat} {Q : tkQ} {S : tkS} (hP : NetP (I 6 0) S) (w : WF S) {m : Nat} (hm : m < sM S) (hQ : ∀ Y, Y 0 21 = nI (rtF S 6 m) → Y 0 22 = gbF S 6 m 0 → mRoot (I 6 0) Y → Q none (tk_so I 6 0 Y, J, R)) : tkDn tm_154 (0, [some (.inr (.inr (6, 0, 0))), some (.inl (nI m)), none], [], (I, J, R)) Q := by
  refine dn_run 6 (show tkDn tm_154 (10, [some (.inr (.inr (6, 0, 0))), some (.inl (nI m)), none], [], (tk_so (tk_so I 6 0 (tk_u2 (I 6 0) 0 21 (nI m))) 6 0 (tk_u2 (tk_u2 (I 6 0) 0 21 (nI m)) 0 22 0), J, R)) _ from ?_)
  rw [tk_so_so]
  rw [← rtF_up 6 m (up7 w m), ← gbF_up 6 m 0 (up7 w m)] at hQ
  refine sm_findRoot_loop hP w 7 m 0 _ _ (up7 w m) hm (by rw [tk_u2_0 (by decide), tk_u2_1]) (by rw [tk_u2_1]) (mRoot.u (mRoot.u (fun _ _ _ => rfl) (Or.inl rfl)) (Or.inr rfl)) hQ
set_option maxRecDepth 8000 in
theorem sm_sumOf1_loop {I : tkI} {J : tkJ} {R : Nat → Nat} {Q : tkQ} {S : tkS} (hP : NetP (I 6 0) S) (w : WF S) {mask : Int32} (hQ : Q (some (.inr (.inl (slS S mask 63 (sG S))))) (I, J, R)) : ∀ n g, g + n = sG S → tkDn tm_155 (5, [some (.inr (.inr (6, 0, 0))), some (.inl mask), some (.inl 1), some (.inr (.inl (slS S mask 63 g))), none, some (.inl (nI g))], [], (I, J, R)) Q := by
  have hM16 := w.1
  have hL60 := w.2.1
  have hG6 := w.2.2.1
  have hM := hP.m
  have hL := hP.l
  have hG := hP.g
  intro n
  induction n with
  | zero =>
    intro g hg
    show tkDn tm_155 (5, [some (.inr (.inr (6, 0, 0))), some (.inl mask), some (.inl 1), some (.inr (.inl (slS S mask 63 g))), none, some (.inl (nI g))], [], (I, J, R)) _
    refine dn_run 3 (show tkDn tm_155 (11, [some (.inr (.inr (6, 0, 0))), some (.inl mask), some (.inl 1), some (.inr (.inl (slS S mask 63 g))), none, some (.inl (nI g))], [.inl (I 6 0 0 2), .inl (nI g)], (I, J, R)) _ from ?_)
    rw [hG]
    refine dn_if rfl rfl rfl (fun (c : (nI (sG S)) ≤ (nI g)) => ?_) (fun (c : ¬ (nI (sG S)) ≤ (nI g)) => ?_)
    · show tkDn tm_155 (69, [some (.inr (.inr (6, 0, 0))), some (.inl mask), some (.inl 1), some (.inr (.inl (slS S mask 63 g))), none, some (.inl (nI g))], [], (I, J, R)) _
      refine dn_run 1 (show tkDn tm_155 (70, [some (.inr (.inr (6, 0, 0))), some (.inl mask), some (.inl 1), some (.inr (.inl (slS S mask 63 g))), none, some (.inl (nI g))], [.inr (.inl (slS S mask 63 g))], (I, J, R)) _ from ?_)
      refine dn_ret0 rfl rfl rfl rfl ?_
      rw [show g = sG S by omega]
      exact hQ
    · exact absurd (nI_le (by omega) (by omega)) c
  | succ n ih =>
    intro g hg
    have e9 := hP.gl w (g := g) (by omega)
    have hgl := w.gl (g := g) (by omega)
    have ev := hP.hi w hgl
    have hch : chL S 63 g = shi S (sgl S g) := if_pos (ch63 g (by omega))
    show tkDn tm_155 (5, [some (.inr (.inr (6, 0, 0))), some (.inl mask), some (.inl 1), some (.inr (.inl (slS S mask 63 g))), none, some (.inl (nI g))], [], (I, J, R)) _
    refine dn_run 3 (show tkDn tm_155 (11, [some (.inr (.inr (6, 0, 0))), some (.inl mask), some (.inl 1), some (.inr (.inl (slS S mask 63 g))), none, some (.inl (nI g))], [.inl (I 6 0 0 2), .inl (nI g)], (I, J, R)) _ from ?_)
    rw [hG]
    refine dn_if rfl rfl rfl (fun (c : (nI (sG S)) ≤ (nI g)) => ?_) (fun (c : ¬ (nI (sG S)) ≤ (nI g)) => ?_)
    · exact absurd c (nI_ge (by omega) (by omega))
    · show tkDn tm_155 (14, [some (.inr (.inr (6, 0, 0))), some (.inl mask), some (.inl 1), some (.inr (.inl (slS S mask 63 g))), none, some (.inl (nI g))], [], (I, J, R)) _
      refine dn_run 6 (show tkDn tm_155 (21, [some (.inr (.inr (6, 0, 0))), some (.inl mask), some (.inl 1), some (.inr (.inl (slS S mask 63 g))), none, some (.inl (nI g))], [.inl ((mask >>> ((nI g) &&& 31)) &&& 1), .inr (.inl (slS S mask 63 g))], (I, J, R)) _ from ?_)
      refine dn_if rfl rfl rfl (fun (c2 : ¬ ((mask >>> ((nI g) &&& 31)) &&& 1) = 0) => ?_) (fun (c2 : ((mask >>> ((nI g) &&& 31)) &&& 1) = 0) => ?_)
      · show tkDn tm_155 (28, [some (.inr (.inr (6, 0, 0))), some (.inl mask), some (.inl 1), some (.inr (.inl (slS S mask 63 g))), none, some (.inl (nI g))], [.inr (.inl (slS S mask 63 g))], (I, J, R)) _
        have c3 : (mask >>> (nI g &&& 31)) &&& 1 = 1 := (and1 _).resolve_left c2
        refine dn_run 1 (show tkDn tm_155 (29, [some (.inr (.inr (6, 0, 0))), some (.inl mask), some (.inl 1), some (.inr (.inl (slS S mask 63 g))), none, some (.inl (nI g))], [.inl 1, .inr (.inl (slS S mask 63 g))], (I, J, R)) _ from ?_)
        refine dn_if rfl rfl rfl (fun (c4 : ((1 : Int32) = 0 : Prop)) => ?_) (fun (c4 : (¬ (1 : Int32) = 0 : Prop)) => ?_)
        · exact absurd c4 (by decide)
        · show tkDn tm_155 (32, [some (.inr (.inr (6, 0, 0))), some (.inl mask), some (.inl 1), some (.inr (.inl (slS S mask 63 g))), none, some (.inl (nI g))], [.inr (.inl (slS S mask 63 g))], (I, J, R)) _
          refine dn_run 13 (show (vp_in (nI g) 6) ∧ (vp_in (I 6 0 9 ((nI g).toNatClampNeg)) 60) ∧ tkDn tm_155 (5, [some (.inr (.inr (6, 0, 0))), some (.inl mask), some (.inl 1), some (.inr (.inl ((slS S mask 63 g) + (((I 6 0 7 ((I 6 0 9 ((nI g).toNatClampNeg)).toNatClampNeg)) : Int32).toInt64)))), none, some (.inl ((nI g) + 1))], [], (I, J, R)) _ from ⟨vp_in_nI (by omega) (by omega), by rw [e9]; exact vp_in_nI (by omega) (by omega), ?_⟩)
          rw [e9, ev, ← hch, nI_1]
          rw [show slS S mask 63 g + (chL S 63 g).toInt64 = slS S mask 63 (g + 1) from (if_pos c3).symm]
          exact ih (g + 1) (by omega)
      · show tkDn tm_155 (24, [some (.inr (.inr (6, 0, 0))), some (.inl mask), some (.inl 1), some (.inr (.inl (slS S mask 63 g))), none, some (.inl (nI g))], [.inr (.inl (slS S mask 63 g))], (I, J, R)) _
        refine dn_run 6 (show tkDn tm_155 (5, [some (.inr (.inr (6, 0, 0))), some (.inl mask), some (.inl 1), some (.inr (.inl ((slS S mask 63 g) + 0))), none, some (.inl ((nI g) + 1))], [], (I, J, R)) _ from ?_)
        rw [nI_1, Int64.add_zero]
        rw [show slS S mask 63 g = slS S mask 63 (g + 1) from (if_neg (fun q => by rw [c2] at q; exact absurd q (by decide))).symm]
        exact ih (g + 1) (by omega)
set_option maxRecDepth 8000 in
theorem sm_sumOf1 {I : tkI} {J : tkJ} {R : Nat → Nat} {Q : tkQ} {S : tkS} (hP : NetP (I 6 0) S) (w : WF S) {mask : Int32} (hQ : Q (some (.inr (.inl (slS S mask 63 (sG S))))) (I, J, R)) : tkDn tm_155 (0, [some (.inr (.inr (6, 0, 0))), some (.inl mask), some (.inl 1), none, none, none], [], (I, J, R)) Q := by
  refine dn_run 4 (show tkDn tm_155 (5, [some (.inr (.inr (6, 0, 0))), some (.inl mask), some (.inl 1), some (.inr (.inl 0)), none, some (.inl 0)], [], (I, J, R)) _ from ?_)
  exact sm_sumOf1_loop hP w hQ (sG S) 0 (Nat.zero_add _)
set_option maxRecDepth 8000 in
theorem sm_sumOf0_loop {I : tkI} {J : tkJ} {R : Nat → Nat} {Q : tkQ} {S : tkS} (hP : NetP (I 6 0) S) (w : WF S) {mask : Int32} (hQ : Q (some (.inr (.inl (slS S mask 0 (sG S))))) (I, J, R)) : ∀ n g, g + n = sG S → tkDn tm_155 (5, [some (.inr (.inr (6, 0, 0))), some (.inl mask), some (.inl 0), some (.inr (.inl (slS S mask 0 g))), none, some (.inl (nI g))], [], (I, J, R)) Q := by
  have hM16 := w.1
  have hL60 := w.2.1
  have hG6 := w.2.2.1
  have hM := hP.m
  have hL := hP.l
  have hG := hP.g
  intro n
  induction n with
  | zero =>
    intro g hg
    show tkDn tm_155 (5, [some (.inr (.inr (6, 0, 0))), some (.inl mask), some (.inl 0), some (.inr (.inl (slS S mask 0 g))), none, some (.inl (nI g))], [], (I, J, R)) _
    refine dn_run 3 (show tkDn tm_155 (11, [some (.inr (.inr (6, 0, 0))), some (.inl mask), some (.inl 0), some (.inr (.inl (slS S mask 0 g))), none, some (.inl (nI g))], [.inl (I 6 0 0 2), .inl (nI g)], (I, J, R)) _ from ?_)
    rw [hG]
    refine dn_if rfl rfl rfl (fun (c : (nI (sG S)) ≤ (nI g)) => ?_) (fun (c : ¬ (nI (sG S)) ≤ (nI g)) => ?_)
    · show tkDn tm_155 (69, [some (.inr (.inr (6, 0, 0))), some (.inl mask), some (.inl 0), some (.inr (.inl (slS S mask 0 g))), none, some (.inl (nI g))], [], (I, J, R)) _
      refine dn_run 1 (show tkDn tm_155 (70, [some (.inr (.inr (6, 0, 0))), some (.inl mask), some (.inl 0), some (.inr (.inl (slS S mask 0 g))), none, some (.inl (nI g))], [.inr (.inl (slS S mask 0 g))], (I, J, R)) _ from ?_)
      refine dn_ret0 rfl rfl rfl rfl ?_
      rw [show g = sG S by omega]
      exact hQ
    · exact absurd (nI_le (by omega) (by omega)) c
  | succ n ih =>
    intro g hg
    have e9 := hP.gl w (g := g) (by omega)
    have hgl := w.gl (g := g) (by omega)
    have ev := hP.lo w hgl
    have hch : chL S 0 g = slo S (sgl S g) := if_neg (ch0 g (by omega))
    show tkDn tm_155 (5, [some (.inr (.inr (6, 0, 0))), some (.inl mask), some (.inl 0), some (.inr (.inl (slS S mask 0 g))), none, some (.inl (nI g))], [], (I, J, R)) _
    refine dn_run 3 (show tkDn tm_155 (11, [some (.inr (.inr (6, 0, 0))), some (.inl mask), some (.inl 0), some (.inr (.inl (slS S mask 0 g))), none, some (.inl (nI g))], [.inl (I 6 0 0 2), .inl (nI g)], (I, J, R)) _ from ?_)
    rw [hG]
    refine dn_if rfl rfl rfl (fun (c : (nI (sG S)) ≤ (nI g)) => ?_) (fun (c : ¬ (nI (sG S)) ≤ (nI g)) => ?_)
    · exact absurd c (nI_ge (by omega) (by omega))
    · show tkDn tm_155 (14, [some (.inr (.inr (6, 0, 0))), some (.inl mask), some (.inl 0), some (.inr (.inl (slS S mask 0 g))), none, some (.inl (nI g))], [], (I, J, R)) _
      refine dn_run 6 (show tkDn tm_155 (21, [some (.inr (.inr (6, 0, 0))), some (.inl mask), some (.inl 0), some (.inr (.inl (slS S mask 0 g))), none, some (.inl (nI g))], [.inl ((mask >>> ((nI g) &&& 31)) &&& 1), .inr (.inl (slS S mask 0 g))], (I, J, R)) _ from ?_)
      refine dn_if rfl rfl rfl (fun (c2 : ¬ ((mask >>> ((nI g) &&& 31)) &&& 1) = 0) => ?_) (fun (c2 : ((mask >>> ((nI g) &&& 31)) &&& 1) = 0) => ?_)
      · show tkDn tm_155 (28, [some (.inr (.inr (6, 0, 0))), some (.inl mask), some (.inl 0), some (.inr (.inl (slS S mask 0 g))), none, some (.inl (nI g))], [.inr (.inl (slS S mask 0 g))], (I, J, R)) _
        have c3 : (mask >>> (nI g &&& 31)) &&& 1 = 1 := (and1 _).resolve_left c2
        refine dn_run 1 (show tkDn tm_155 (29, [some (.inr (.inr (6, 0, 0))), some (.inl mask), some (.inl 0), some (.inr (.inl (slS S mask 0 g))), none, some (.inl (nI g))], [.inl 0, .inr (.inl (slS S mask 0 g))], (I, J, R)) _ from ?_)
        refine dn_if rfl rfl rfl (fun (c4 : ((0 : Int32) = 0 : Prop)) => ?_) (fun (c4 : (¬ (0 : Int32) = 0 : Prop)) => ?_)
        · show tkDn tm_155 (48, [some (.inr (.inr (6, 0, 0))), some (.inl mask), some (.inl 0), some (.inr (.inl (slS S mask 0 g))), none, some (.inl (nI g))], [.inr (.inl (slS S mask 0 g))], (I, J, R)) _
          refine dn_run 12 (show (vp_in (nI g) 6) ∧ (vp_in (I 6 0 9 ((nI g).toNatClampNeg)) 60) ∧ tkDn tm_155 (5, [some (.inr (.inr (6, 0, 0))), some (.inl mask), some (.inl 0), some (.inr (.inl ((slS S mask 0 g) + (((I 6 0 6 ((I 6 0 9 ((nI g).toNatClampNeg)).toNatClampNeg)) : Int32).toInt64)))), none, some (.inl ((nI g) + 1))], [], (I, J, R)) _ from ⟨vp_in_nI (by omega) (by omega), by rw [e9]; exact vp_in_nI (by omega) (by omega), ?_⟩)
          rw [e9, ev, ← hch, nI_1]
          rw [show slS S mask 0 g + (chL S 0 g).toInt64 = slS S mask 0 (g + 1) from (if_pos c3).symm]
          exact ih (g + 1) (by omega)
        · exact absurd rfl c4
      · show tkDn tm_155 (24, [some (.inr (.inr (6, 0, 0))), some (.inl mask), some (.inl 0), some (.inr (.inl (slS S mask 0 g))), none, some (.inl (nI g))], [.inr (.inl (slS S mask 0 g))], (I, J, R)) _
        refine dn_run 6 (show tkDn tm_155 (5, [some (.inr (.inr (6, 0, 0))), some (.inl mask), some (.inl 0), some (.inr (.inl ((slS S mask 0 g) + 0))), none, some (.inl ((nI g) + 1))], [], (I, J, R)) _ from ?_)
        rw [nI_1, Int64.add_zero]
        rw [show slS S mask 0 g = slS S mask 0 (g + 1) from (if_neg (fun q => by rw [c2] at q; exact absurd q (by decide))).symm]
        exact ih (g + 1) (by omega)
set_option maxRecDepth 8000 in
theorem sm_sumOf0 {I : tkI} {J : tkJ} {R : Nat → Nat} {Q : tkQ} {S : tkS} (hP : NetP (I 6 0) S) (w : WF S) {mask : Int32} (hQ : Q (some (.inr (.inl (slS S mask 0 (sG S))))) (I, J, R)) : tkDn tm_155 (0, [some (.inr (.inr (6, 0, 0))), some (.inl mask), some (.inl 0), none, none, none], [], (I, J, R)) Q := by
  refine dn_run 4 (show tkDn tm_155 (5, [some (.inr (.inr (6, 0, 0))), some (.inl mask), some (.inl 0), some (.inr (.inl 0)), none, some (.inl 0)], [], (I, J, R)) _ from ?_)
  exact sm_sumOf0_loop hP w hQ (sG S) 0 (Nat.zero_add _)
set_option maxRecDepth 8000 in
theorem sm_spoiling_loop {I : tkI} {J : tkJ} {R : Nat → Nat} {Q : tkQ} {S : tkS} (hP : NetP (I 6 0) S) (w : WF S) : ∀ n k r, k + n = 2 ^ sG S → (∀ r, Q (some (.inl (mskF S n k))) (I, tk_so J 6 0 (tk_u1 (J 6 0) 21 r), R)) → tkDn tm_157 (2, [some (.inr (.inr (6, 0, 0))), some (.inl (nI k))], [], (I, tk_so J 6 0 (tk_u1 (J 6 0) 21 r), R)) Q := by
  have hM16 := w.1
  have hL60 := w.2.1
  have hG6 := w.2.2.1
  have hM := hP.m
  have hL := hP.l
  have hG := hP.g
  have h64 := pw2 (sG S) (by omega)
  intro n
  induction n with
  | zero =>
    intro k r hk hQ
    show tkDn tm_157 (2, [some (.inr (.inr (6, 0, 0))), some (.inl (nI k))], [], (I, tk_so J 6 0 (tk_u1 (J 6 0) 21 r), R)) _
    refine dn_run 5 (show tkDn tm_157 (9, [some (.inr (.inr (6, 0, 0))), some (.inl (nI k))], [.inl (1 <<< ((I 6 0 0 2) &&& 31)), .inl (nI k)], (I, tk_so J 6 0 (tk_u1 (J 6 0) 21 r), R)) _ from ?_)
    rw [hG, shl1 (sG S) (by omega)]
    refine dn_if rfl rfl rfl (fun (c : (nI (2 ^ sG S)) ≤ (nI k)) => ?_) (fun (c : ¬ (nI (2 ^ sG S)) ≤ (nI k)) => ?_)
    · show tkDn tm_157 (36, [some (.inr (.inr (6, 0, 0))), some (.inl (nI k))], [], (I, tk_so J 6 0 (tk_u1 (J 6 0) 21 r), R)) _
      refine dn_run 1 (show tkDn tm_157 (37, [some (.inr (.inr (6, 0, 0))), some (.inl (nI k))], [.inl (-1)], (I, tk_so J 6 0 (tk_u1 (J 6 0) 21 r), R)) _ from ?_)
      refine dn_ret0 rfl rfl rfl rfl ?_
      exact hQ r
    · exact absurd (nI_le (by omega) (by omega)) c
  | succ n ih =>
    intro k r hk hQ
    show tkDn tm_157 (2, [some (.inr (.inr (6, 0, 0))), some (.inl (nI k))], [], (I, tk_so J 6 0 (tk_u1 (J 6 0) 21 r), R)) _
    refine dn_run 5 (show tkDn tm_157 (9, [some (.inr (.inr (6, 0, 0))), some (.inl (nI k))], [.inl (1 <<< ((I 6 0 0 2) &&& 31)), .inl (nI k)], (I, tk_so J 6 0 (tk_u1 (J 6 0) 21 r), R)) _ from ?_)
    rw [hG, shl1 (sG S) (by omega)]
    refine dn_if rfl rfl rfl (fun (c : (nI (2 ^ sG S)) ≤ (nI k)) => ?_) (fun (c : ¬ (nI (2 ^ sG S)) ≤ (nI k)) => ?_)
    · exact absurd c (nI_ge (by omega) (by omega))
    · show tkDn tm_157 (12, [some (.inr (.inr (6, 0, 0))), some (.inl (nI k))], [], (I, tk_so J 6 0 (tk_u1 (J 6 0) 21 r), R)) _
      refine dn_run 2 (show tkDn tm_157 (14, [some (.inr (.inr (6, 0, 0))), some (.inl (nI k))], [.inl (nI k), .inr (.inr (6, 0, 0))], (I, tk_so J 6 0 (tk_u1 (J 6 0) 21 r), R)) _ from ?_)
      refine dn_call rfl rfl rfl rfl rfl (sm_layLinks hP w (fun r hr => ?_))
      rw [tk_so_so, tk_so_same, tk_u1_u1]
      show tkDn tm_157 (17, [some (.inr (.inr (6, 0, 0))), some (.inl (nI k))], [], (I, tk_so J 6 0 (tk_u1 (J 6 0) 21 r), R)) _
      refine dn_run 3 (show tkDn tm_157 (22, [some (.inr (.inr (6, 0, 0))), some (.inl (nI k))], [.inl (I 6 0 0 0), .inr (.inr (6, 0, 0))], (I, tk_so J 6 0 (tk_u1 (J 6 0) 21 r), R)) _ from ?_)
      rw [hM]
      show tkDn tm_157 (22, [some (.inr (.inr (6, 0, 0))), some (.inl (nI k))], [.inl (nI (sM S)), .inr (.inr (6, 0, 0))], (I, tk_so J 6 0 (tk_u1 (J 6 0) 21 r), R)) _
      refine dn_call rfl rfl rfl rfl rfl (sm_closes (d := mlM S (nI k) (sL S)) (Nat.le_refl _) hM16 hr (fun r3 hr3 => ?_))
      rw [tk_so_so, tk_so_same, tk_u1_u1]
      show tkDn tm_157 (25, [some (.inr (.inr (6, 0, 0))), some (.inl (nI k))], [.inl (if (mcF (mlM S (nI k) (sL S)) (sM S)).1 = true then 1 else 0)], (I, tk_so J 6 0 (tk_u1 (J 6 0) 21 r3), R)) _
      refine dn_if rfl rfl rfl (fun (c2 : ¬ (if (mcF (mlM S (nI k) (sL S)) (sM S)).1 = true then 1 else 0) = 0) => ?_) (fun (c2 : (if (mcF (mlM S (nI k) (sL S)) (sM S)).1 = true then 1 else 0) = 0) => ?_)
      · show tkDn tm_157 (30, [some (.inr (.inr (6, 0, 0))), some (.inl (nI k))], [], (I, tk_so J 6 0 (tk_u1 (J 6 0) 21 r3), R)) _
        have hm : (mtog S (nI k)).1 = true := by by_cases z : (mtog S (nI k)).1 = true; exact z; exact absurd (if_neg z) c2
        refine dn_run 2 (show tkDn tm_157 (2, [some (.inr (.inr (6, 0, 0))), some (.inl ((nI k) + 1))], [], (I, tk_so J 6 0 (tk_u1 (J 6 0) 21 r3), R)) _ from ?_)
        rw [nI_1]
        rw [show mskF S (n + 1) k = mskF S n (k + 1) from if_pos hm] at hQ
        exact ih (k + 1) r3 (by omega) hQ
      · show tkDn tm_157 (28, [some (.inr (.inr (6, 0, 0))), some (.inl (nI k))], [], (I, tk_so J 6 0 (tk_u1 (J 6 0) 21 r3), R)) _
        refine dn_run 1 (show tkDn tm_157 (29, [some (.inr (.inr (6, 0, 0))), some (.inl (nI k))], [.inl (nI k)], (I, tk_so J 6 0 (tk_u1 (J 6 0) 21 r3), R)) _ from ?_)
        refine dn_ret0 rfl rfl rfl rfl ?_
        have hm : ¬ (mtog S (nI k)).1 = true := fun z => by rw [show (mcF (mlM S (nI k) (sL S)) (sM S)).1 = true from z] at c2; exact absurd c2 (by decide)
        rw [show mskF S (n + 1) k = nI k from if_neg hm] at hQ
        exact hQ r3
set_option maxRecDepth 8000 in
theorem sm_spoiling {I : tkI} {J : tkJ} {R : Nat → Nat} {Q : tkQ} {S : tkS} (hP : NetP (I 6 0) S) (w : WF S) (hQ : ∀ r, Q (some (.inl (mspo S))) (I, tk_so J 6 0 (tk_u1 (J 6 0) 21 r), R)) : tkDn tm_157 (0, [some (.inr (.inr (6, 0, 0))), none], [], (I, J, R)) Q := by
  refine dn_run 2 (show tkDn tm_157 (2, [some (.inr (.inr (6, 0, 0))), some (.inl 0)], [], (I, J, R)) _ from ?_)
  have := sm_spoiling_loop (J := J) hP w (2 ^ sG S) 0 (J 6 0 21) (Nat.zero_add _) hQ
  rw [jr_id] at this
  exact this
set_option maxRecDepth 8000 in
theorem sm_weak {I : tkI} {J : tkJ} {R : Nat → Nat} {Q : tkQ} {S : tkS} (hP : NetP (I 6 0) S) (w : WF S) (hQ : ∀ r, Q (some (.inl (if mspo S < 0 then 1 else 0))) (I, tk_so J 6 0 (tk_u1 (J 6 0) 21 r), R)) : tkDn tm_158 (0, [some (.inr (.inr (6, 0, 0)))], [], (I, J, R)) Q := by
  refine dn_run 1 (show tkDn tm_158 (1, [some (.inr (.inr (6, 0, 0)))], [.inr (.inr (6, 0, 0))], (I, J, R)) _ from ?_)
  refine dn_call rfl rfl rfl rfl rfl (sm_spoiling hP w (fun r => ?_))
  show tkDn tm_158 (4, [some (.inr (.inr (6, 0, 0)))], [.inl (mspo S)], (I, tk_so J 6 0 (tk_u1 (J 6 0) 21 r), R)) _
  refine dn_if rfl rfl rfl (fun (c : 0 ≤ (mspo S)) => ?_) (fun (c : ¬ 0 ≤ (mspo S)) => ?_)
  · show tkDn tm_158 (11, [some (.inr (.inr (6, 0, 0)))], [], (I, tk_so J 6 0 (tk_u1 (J 6 0) 21 r), R)) _
    refine dn_run 1 (show tkDn tm_158 (12, [some (.inr (.inr (6, 0, 0)))], [.inl 0], (I, tk_so J 6 0 (tk_u1 (J 6 0) 21 r), R)) _ from ?_)
    refine dn_ret0 rfl rfl rfl rfl ?_
    have := hQ r
    rw [if_neg (Int32.not_lt.mpr c)] at this
    exact this
  · show tkDn tm_158 (7, [some (.inr (.inr (6, 0, 0)))], [], (I, tk_so J 6 0 (tk_u1 (J 6 0) 21 r), R)) _
    refine dn_run 2 (show tkDn tm_158 (12, [some (.inr (.inr (6, 0, 0)))], [.inl 1], (I, tk_so J 6 0 (tk_u1 (J 6 0) 21 r), R)) _ from ?_)
    refine dn_ret0 rfl rfl rfl rfl ?_
    have := hQ r
    rw [if_pos (Int32.not_le.mp c)] at this
    exact this
def mspl (S : tkS) (g : Int32) : Int32 := if 0 ≤ g ∧ g < nI (sG S) then (if mspo S < 0 then -13 else chL S (mspo S) g.toNatClampNeg) else -11
set_option maxRecDepth 8000 in
theorem sm_spoiler {I : tkI} {J : tkJ} {R : Nat → Nat} {Q : tkQ} {S : tkS} (hP : NetP (I 6 0) S) (w : WF S) {g : Int32} (hQ : ∀ r, Q (some (.inl (mspl S g))) (I, tk_so J 6 0 (tk_u1 (J 6 0) 21 r), R)) : tkDn tm_159 (0, [some (.inr (.inr (6, 0, 0))), some (.inl g), none], [], (I, J, R)) Q := by
  have hM16 := w.1
  have hL60 := w.2.1
  have hG6 := w.2.2.1
  have hM := hP.m
  have hL := hP.l
  have hG := hP.g
  have hiff : (0 ≤ g ∧ g ≤ I 6 0 0 2 - 1) ↔ (0 ≤ g ∧ g < nI (sG S)) := by rw [hG, le_pred (by omega)]
  refine dn_run 6 (show tkDn tm_159 (8, [some (.inr (.inr (6, 0, 0))), some (.inl g), none], [.inl ((I 6 0 0 2) - 1), .inl 0, .inl g], (I, J, R)) _ from ?_)
  refine dn_call rfl rfl rfl rfl rfl (sm_in ?_)
  show tkDn tm_159 (11, [some (.inr (.inr (6, 0, 0))), some (.inl g), none], [.inl (if 0 ≤ g ∧ g ≤ I 6 0 0 2 - 1 then 1 else 0)], (I, J, R)) _
  refine dn_if rfl rfl rfl (fun (c1 : ¬ (if 0 ≤ g ∧ g ≤ I 6 0 0 2 - 1 then 1 else 0) = 0) => ?_) (fun (c1 : (if 0 ≤ g ∧ g ≤ I 6 0 0 2 - 1 then 1 else 0) = 0) => ?_)
  · show tkDn tm_159 (17, [some (.inr (.inr (6, 0, 0))), some (.inl g), none], [], (I, J, R)) _
    have hk : 0 ≤ g ∧ g < nI (sG S) := by by_cases q : 0 ≤ g ∧ g ≤ I 6 0 0 2 - 1; exact hiff.mp q; exact absurd (if_neg q) c1
    clear c1 hiff
    obtain ⟨j, hj, rfl⟩ : ∃ j, j < sG S ∧ g = nI j := by obtain ⟨j, hj, rfl⟩ := nI_of (Int32.not_lt.mpr hk.1); exact ⟨j, (nI_ltI hj (by omega)).mp hk.2, rfl⟩
    have hcl : (nI j).toNatClampNeg = j := nI_clamp (by omega)
    have e9 := hP.gl w hj
    have hgl := w.gl hj
    have e7 := hP.hi w hgl
    have e6 := hP.lo w hgl
    refine dn_run 1 (show tkDn tm_159 (18, [some (.inr (.inr (6, 0, 0))), some (.inl (nI j)), none], [.inr (.inr (6, 0, 0))], (I, J, R)) _ from ?_)
    refine dn_call rfl rfl rfl rfl rfl (sm_spoiling hP w (fun r => ?_))
    show tkDn tm_159 (21, [some (.inr (.inr (6, 0, 0))), some (.inl (nI j)), none], [.inl (mspo S)], (I, tk_so J 6 0 (tk_u1 (J 6 0) 21 r), R)) _
    refine dn_run 2 (show tkDn tm_159 (23, [some (.inr (.inr (6, 0, 0))), some (.inl (nI j)), some (.inl (mspo S))], [.inl (mspo S)], (I, tk_so J 6 0 (tk_u1 (J 6 0) 21 r), R)) _ from ?_)
    refine dn_if rfl rfl rfl (fun (c2 : 0 ≤ (mspo S)) => ?_) (fun (c2 : ¬ 0 ≤ (mspo S)) => ?_)
    · show tkDn tm_159 (31, [some (.inr (.inr (6, 0, 0))), some (.inl (nI j)), some (.inl (mspo S))], [], (I, tk_so J 6 0 (tk_u1 (J 6 0) 21 r), R)) _
      refine dn_run 6 (show tkDn tm_159 (37, [some (.inr (.inr (6, 0, 0))), some (.inl (nI j)), some (.inl (mspo S))], [.inl 1, .inl (((mspo S) >>> ((nI j) &&& 31)) &&& 1)], (I, tk_so J 6 0 (tk_u1 (J 6 0) 21 r), R)) _ from ?_)
      refine dn_if rfl rfl rfl (fun (c3 : ¬ (((mspo S) >>> ((nI j) &&& 31)) &&& 1) = 1) => ?_) (fun (c3 : (((mspo S) >>> ((nI j) &&& 31)) &&& 1) = 1) => ?_)
      · show tkDn tm_159 (54, [some (.inr (.inr (6, 0, 0))), some (.inl (nI j)), some (.inl (mspo S))], [], (I, tk_so J 6 0 (tk_u1 (J 6 0) 21 r), R)) _
        refine dn_run 7 (show (vp_in (nI j) 6) ∧ (vp_in (I 6 0 9 ((nI j).toNatClampNeg)) 60) ∧ tkDn tm_159 (65, [some (.inr (.inr (6, 0, 0))), some (.inl (nI j)), some (.inl (mspo S))], [.inl (I 6 0 6 ((I 6 0 9 ((nI j).toNatClampNeg)).toNatClampNeg))], (I, tk_so J 6 0 (tk_u1 (J 6 0) 21 r), R)) _ from ⟨vp_in_nI (by omega) (by omega), by show vp_in (I 6 0 9 _) 60; rw [e9]; exact vp_in_nI (by omega) (by omega), ?_⟩)
        rw [e9, e6]
        refine dn_ret0 rfl rfl rfl rfl ?_
        have := hQ r
        rw [show mspl S (nI j) = slo S (sgl S j) by unfold mspl; rw [if_pos hk, if_neg (Int32.not_lt.mpr c2), hcl]; exact if_neg c3] at this
        exact this
      · show tkDn tm_159 (40, [some (.inr (.inr (6, 0, 0))), some (.inl (nI j)), some (.inl (mspo S))], [], (I, tk_so J 6 0 (tk_u1 (J 6 0) 21 r), R)) _
        refine dn_run 8 (show (vp_in (nI j) 6) ∧ (vp_in (I 6 0 9 ((nI j).toNatClampNeg)) 60) ∧ tkDn tm_159 (65, [some (.inr (.inr (6, 0, 0))), some (.inl (nI j)), some (.inl (mspo S))], [.inl (I 6 0 7 ((I 6 0 9 ((nI j).toNatClampNeg)).toNatClampNeg))], (I, tk_so J 6 0 (tk_u1 (J 6 0) 21 r), R)) _ from ⟨vp_in_nI (by omega) (by omega), by show vp_in (I 6 0 9 _) 60; rw [e9]; exact vp_in_nI (by omega) (by omega), ?_⟩)
        rw [e9, e7]
        refine dn_ret0 rfl rfl rfl rfl ?_
        have := hQ r
        rw [show mspl S (nI j) = shi S (sgl S j) by unfold mspl; rw [if_pos hk, if_neg (Int32.not_lt.mpr c2), hcl]; exact if_pos c3] at this
        exact this
    · show tkDn tm_159 (26, [some (.inr (.inr (6, 0, 0))), some (.inl (nI j)), some (.inl (mspo S))], [], (I, tk_so J 6 0 (tk_u1 (J 6 0) 21 r), R)) _
      refine dn_run 2 (show tkDn tm_159 (65, [some (.inr (.inr (6, 0, 0))), some (.inl (nI j)), some (.inl (mspo S))], [.inl (-13)], (I, tk_so J 6 0 (tk_u1 (J 6 0) 21 r), R)) _ from ?_)
      refine dn_ret0 rfl rfl rfl rfl ?_
      have := hQ r
      rw [show mspl S (nI j) = -13 by unfold mspl; rw [if_pos hk, if_pos (Int32.not_le.mp c2)]] at this
      exact this
  · show tkDn tm_159 (14, [some (.inr (.inr (6, 0, 0))), some (.inl g), none], [], (I, J, R)) _
    refine dn_run 1 (show tkDn tm_159 (16, [some (.inr (.inr (6, 0, 0))), some (.inl g), none], [.inl (-11)], (I, J, R)) _ from ?_)
    refine dn_ret0 rfl rfl rfl rfl ?_
    have := hQ (J 6 0 21)
    rw [jr_id, show mspl S g = -11 from if_neg (fun q => by rw [if_pos (hiff.mpr q)] at c1; exact absurd c1 (by decide))] at this
    exact this
