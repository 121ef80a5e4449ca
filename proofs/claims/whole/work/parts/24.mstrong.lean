/-! the reference: strong -/
set_option maxRecDepth 8000 in
theorem sm_strong_loop {I : tkI} {J : tkJ} {R : Nat → Nat} {Q : tkQ} {S : tkS} (hP : NetP (I 6 0) S) (w : WF S) (hQ : ∀ X r, mRoot (I 6 0) X → Q (some (.inl (if (mstr S).1 = true then 1 else 0))) (tk_so I 6 0 X, tk_so J 6 0 (tk_u1 (J 6 0) 21 r), R)) : ∀ n l r X o2 o3 o4 o5 o6 o7 o9, l + n = sL S → mRoot (I 6 0) X → RowP (sM S) r (mstM S l) → tkDn tm_156 (10, [some (.inr (.inr (6, 0, 0))), some (.inl (nI l)), o2, o3, o4, o5, o6, o7, none, o9, none], [], (tk_so I 6 0 X, tk_so J 6 0 (tk_u1 (J 6 0) 21 r), R)) Q := by
  have hM16 := w.1
  have hL60 := w.2.1
  have hG6 := w.2.2.1
  intro n
  induction n with
  | zero =>
    intro l r X o2 o3 o4 o5 o6 o7 o9 hl hX hr
    have hPX := hX.net hP
    have hPX2 : NetP (tk_so I 6 0 X 6 0) S := by rw [tk_so_same]; exact hPX
    have hL := hPX.l
    have hM := hPX.m
    have hl : l = sL S := by omega
    rw [hl] at hr
    show tkDn tm_156 (10, [some (.inr (.inr (6, 0, 0))), some (.inl (nI l)), o2, o3, o4, o5, o6, o7, none, o9, none], [], (tk_so I 6 0 X, tk_so J 6 0 (tk_u1 (J 6 0) 21 r), R)) _
    refine dn_run 3 (show tkDn tm_156 (15, [some (.inr (.inr (6, 0, 0))), some (.inl (nI l)), o2, o3, o4, o5, o6, o7, none, o9, none], [.inl (X 0 1), .inl (nI l)], (tk_so I 6 0 X, tk_so J 6 0 (tk_u1 (J 6 0) 21 r), R)) _ from ?_)
    rw [hL]
    refine dn_if rfl rfl rfl (fun (c : (nI (sL S)) ≤ (nI l)) => ?_) (fun (c : ¬ (nI (sL S)) ≤ (nI l)) => ?_)
    · show tkDn tm_156 (157, [some (.inr (.inr (6, 0, 0))), some (.inl (nI l)), o2, o3, o4, o5, o6, o7, none, o9, none], [], (tk_so I 6 0 X, tk_so J 6 0 (tk_u1 (J 6 0) 21 r), R)) _
      refine dn_run 3 (show tkDn tm_156 (162, [some (.inr (.inr (6, 0, 0))), some (.inl (nI l)), o2, o3, o4, o5, o6, o7, none, o9, none], [.inl (X 0 0), .inr (.inr (6, 0, 0))], (tk_so I 6 0 X, tk_so J 6 0 (tk_u1 (J 6 0) 21 r), R)) _ from ?_)
      rw [hM]
      show tkDn tm_156 (162, [some (.inr (.inr (6, 0, 0))), some (.inl (nI l)), o2, o3, o4, o5, o6, o7, none, o9, none], [.inl (nI (sM S)), .inr (.inr (6, 0, 0))], (tk_so I 6 0 X, tk_so J 6 0 (tk_u1 (J 6 0) 21 r), R)) _
      refine dn_call rfl rfl rfl rfl rfl (sm_closes (d := mstM S (sL S)) (Nat.le_refl _) hM16 hr (fun r3 hr3 => ?_))
      rw [tk_so_so, tk_so_same, tk_u1_u1]
      show tkDn tm_156 (165, [some (.inr (.inr (6, 0, 0))), some (.inl (nI l)), o2, o3, o4, o5, o6, o7, none, o9, none], [.inl (if (mcF (mstM S (sL S)) (sM S)).1 = true then 1 else 0)], (tk_so I 6 0 X, tk_so J 6 0 (tk_u1 (J 6 0) 21 r3), R)) _
      refine dn_if rfl rfl rfl (fun (c2 : (if (mcF (mstM S (sL S)) (sM S)).1 = true then 1 else 0) = 0) => ?_) (fun (c2 : ¬ (if (mcF (mstM S (sL S)) (sM S)).1 = true then 1 else 0) = 0) => ?_)
      · show tkDn tm_156 (172, [some (.inr (.inr (6, 0, 0))), some (.inl (nI l)), o2, o3, o4, o5, o6, o7, none, o9, none], [], (tk_so I 6 0 X, tk_so J 6 0 (tk_u1 (J 6 0) 21 r3), R)) _
        refine dn_run 1 (show tkDn tm_156 (173, [some (.inr (.inr (6, 0, 0))), some (.inl (nI l)), o2, o3, o4, o5, o6, o7, none, o9, none], [.inl 0], (tk_so I 6 0 X, tk_so J 6 0 (tk_u1 (J 6 0) 21 r3), R)) _ from ?_)
        refine dn_ret0 rfl rfl rfl rfl ?_
        have e : ¬ (mstr S).1 = true := fun q => by rw [show (mcF (mstM S (sL S)) (sM S)).1 = true from q] at c2; exact absurd c2 (by decide)
        have := hQ X r3 hX
        rw [if_neg e] at this
        exact this
      · show tkDn tm_156 (168, [some (.inr (.inr (6, 0, 0))), some (.inl (nI l)), o2, o3, o4, o5, o6, o7, none, o9, none], [], (tk_so I 6 0 X, tk_so J 6 0 (tk_u1 (J 6 0) 21 r3), R)) _
        refine dn_run 2 (show tkDn tm_156 (173, [some (.inr (.inr (6, 0, 0))), some (.inl (nI l)), o2, o3, o4, o5, o6, o7, none, o9, none], [.inl 1], (tk_so I 6 0 X, tk_so J 6 0 (tk_u1 (J 6 0) 21 r3), R)) _ from ?_)
        refine dn_ret0 rfl rfl rfl rfl ?_
        have e : (mstr S).1 = true := by by_cases q : (mstr S).1 = true; exact q; exact absurd (if_neg q) c2
        have := hQ X r3 hX
        rw [if_pos e] at this
        exact this
    · exact absurd (nI_le (by omega) (by omega)) c
  | succ n ih =>
    intro l r X o2 o3 o4 o5 o6 o7 o9 hl hX hr
    have hPX := hX.net hP
    have hPX2 : NetP (tk_so I 6 0 X 6 0) S := by rw [tk_so_same]; exact hPX
    have hL := hPX.l
    have hM := hPX.m
    have hf := w.fM (j := l) (by omega)
    have he := w.eM (j := l) (by omega)
    have hra := rtF_lt w 6 _ hf
    have hrb := rtF_lt w 6 _ he
    have e8 := hPX.gn w (j := l) (by omega)
    have e4 := hPX.fr w (j := l) (by omega)
    show tkDn tm_156 (10, [some (.inr (.inr (6, 0, 0))), some (.inl (nI l)), o2, o3, o4, o5, o6, o7, none, o9, none], [], (tk_so I 6 0 X, tk_so J 6 0 (tk_u1 (J 6 0) 21 r), R)) _
    refine dn_run 3 (show tkDn tm_156 (15, [some (.inr (.inr (6, 0, 0))), some (.inl (nI l)), o2, o3, o4, o5, o6, o7, none, o9, none], [.inl (X 0 1), .inl (nI l)], (tk_so I 6 0 X, tk_so J 6 0 (tk_u1 (J 6 0) 21 r), R)) _ from ?_)
    rw [hL]
    refine dn_if rfl rfl rfl (fun (c : (nI (sL S)) ≤ (nI l)) => ?_) (fun (c : ¬ (nI (sL S)) ≤ (nI l)) => ?_)
    · exact absurd c (nI_ge (by omega) (by omega))
    · show tkDn tm_156 (18, [some (.inr (.inr (6, 0, 0))), some (.inl (nI l)), o2, o3, o4, o5, o6, o7, none, o9, none], [], (tk_so I 6 0 X, tk_so J 6 0 (tk_u1 (J 6 0) 21 r), R)) _
      refine dn_run 4 (show (vp_in (nI l) 60) ∧ tkDn tm_156 (24, [some (.inr (.inr (6, 0, 0))), some (.inl (nI l)), o2, o3, o4, o5, o6, o7, none, o9, none], [.inl (X 8 ((nI l).toNatClampNeg))], (tk_so I 6 0 X, tk_so J 6 0 (tk_u1 (J 6 0) 21 r), R)) _ from ⟨vp_in_nI (by omega) (by omega), ?_⟩)
      rw [e8]
      refine dn_if rfl rfl rfl (fun (c2 : 0 ≤ (sgn S l)) => ?_) (fun (c2 : ¬ 0 ≤ (sgn S l)) => ?_)
      · show tkDn tm_156 (151, [some (.inr (.inr (6, 0, 0))), some (.inl (nI l)), o2, o3, o4, o5, o6, o7, none, o9, none], [], (tk_so I 6 0 X, tk_so J 6 0 (tk_u1 (J 6 0) 21 r), R)) _
        refine dn_run 2 (show tkDn tm_156 (10, [some (.inr (.inr (6, 0, 0))), some (.inl ((nI l) + 1)), o2, o3, o4, o5, o6, o7, none, o9, none], [], (tk_so I 6 0 X, tk_so J 6 0 (tk_u1 (J 6 0) 21 r), R)) _ from ?_)
        rw [nI_1]
        exact ih (l + 1) r X _ _ _ _ _ _ _ (by omega) hX (by rw [show mstM S (l + 1) = mstM S l from if_neg (Int32.not_lt.mpr c2)]; exact hr)
      · show tkDn tm_156 (27, [some (.inr (.inr (6, 0, 0))), some (.inl (nI l)), o2, o3, o4, o5, o6, o7, none, o9, none], [], (tk_so I 6 0 X, tk_so J 6 0 (tk_u1 (J 6 0) 21 r), R)) _
        have c2 := Int32.not_le.mp c2
        refine dn_run 5 (show (vp_in (nI l) 60) ∧ tkDn tm_156 (34, [some (.inr (.inr (6, 0, 0))), some (.inl (nI l)), o2, o3, o4, o5, o6, o7, none, o9, none], [.inl (X 4 ((nI l).toNatClampNeg)), .inr (.inr (6, 0, 0))], (tk_so I 6 0 X, tk_so J 6 0 (tk_u1 (J 6 0) 21 r), R)) _ from ⟨vp_in_nI (by omega) (by omega), ?_⟩)
        rw [e4]
        show tkDn tm_156 (34, [some (.inr (.inr (6, 0, 0))), some (.inl (nI l)), o2, o3, o4, o5, o6, o7, none, o9, none], [.inl (nI (sf S l)), .inr (.inr (6, 0, 0))], (tk_so I 6 0 X, tk_so J 6 0 (tk_u1 (J 6 0) 21 r), R)) _
        refine dn_call rfl rfl rfl rfl rfl (sm_findRoot hPX2 w hf (fun Y h21Y h22Y hYY => ?_))
        rw [tk_so_so]
        rw [tk_so_same] at hYY
        show tkDn tm_156 (37, [some (.inr (.inr (6, 0, 0))), some (.inl (nI l)), o2, o3, o4, o5, o6, o7, none, o9, none], [], (tk_so I 6 0 Y, tk_so J 6 0 (tk_u1 (J 6 0) 21 r), R)) _
        have hY1 := hX.trans hYY
        have hPY := hY1.net hP
        have hPY2 : NetP (tk_so I 6 0 Y 6 0) S := by rw [tk_so_same]; exact hPY
        have e5 := hPY.en w (j := l) (by omega)
        refine dn_run 11 (show (vp_in (nI l) 60) ∧ tkDn tm_156 (54, [some (.inr (.inr (6, 0, 0))), some (.inl (nI l)), some (.inl (Y 0 21)), some (.inl (Y 0 22)), o4, o5, o6, o7, none, o9, none], [.inl (Y 5 ((nI l).toNatClampNeg)), .inr (.inr (6, 0, 0))], (tk_so I 6 0 Y, tk_so J 6 0 (tk_u1 (J 6 0) 21 r), R)) _ from ⟨vp_in_nI (by omega) (by omega), ?_⟩)
        rw [h21Y, h22Y, e5]
        show tkDn tm_156 (54, [some (.inr (.inr (6, 0, 0))), some (.inl (nI l)), some (.inl (nI (rtF S 6 (sf S l)))), some (.inl (gbF S 6 (sf S l) 0)), o4, o5, o6, o7, none, o9, none], [.inl (nI (se S l)), .inr (.inr (6, 0, 0))], (tk_so I 6 0 Y, tk_so J 6 0 (tk_u1 (J 6 0) 21 r), R)) _
        refine dn_call rfl rfl rfl rfl rfl (sm_findRoot hPY2 w he (fun Z h21Z h22Z hYZ => ?_))
        rw [tk_so_so]
        rw [tk_so_same] at hYZ
        show tkDn tm_156 (57, [some (.inr (.inr (6, 0, 0))), some (.inl (nI l)), some (.inl (nI (rtF S 6 (sf S l)))), some (.inl (gbF S 6 (sf S l) 0)), o4, o5, o6, o7, none, o9, none], [], (tk_so I 6 0 Z, tk_so J 6 0 (tk_u1 (J 6 0) 21 r), R)) _
        have hZ1 := hY1.trans hYZ
        have hPZ := hZ1.net hP
        have hPZ2 : NetP (tk_so I 6 0 Z 6 0) S := by rw [tk_so_same]; exact hPZ
        have e7 := hPZ.hi w (j := l) (by omega)
        have e6 := hPZ.lo w (j := l) (by omega)
        refine dn_run 20 (show tkDn tm_156 (87, [some (.inr (.inr (6, 0, 0))), some (.inl (nI l)), some (.inl (nI (rtF S 6 (sf S l)))), some (.inl (gbF S 6 (sf S l) 0)), some (.inl (Z 0 21)), some (.inl ((gbF S 6 (sf S l) 0) &&& ((Z 0 22) ^^^ (-1)))), some (.inl ((Z 0 22) &&& ((gbF S 6 (sf S l) 0) ^^^ (-1)))), o7, none, o9, none], [.inl 1, .inl ((Z 0 22) &&& ((gbF S 6 (sf S l) 0) ^^^ (-1))), .inr (.inr (6, 0, 0))], (tk_so I 6 0 Z, tk_so J 6 0 (tk_u1 (J 6 0) 21 r), R)) _ from ?_)
        rw [h21Z, h22Z]
        show tkDn tm_156 (87, [some (.inr (.inr (6, 0, 0))), some (.inl (nI l)), some (.inl (nI (rtF S 6 (sf S l)))), some (.inl (gbF S 6 (sf S l) 0)), some (.inl (nI (rtF S 6 (se S l)))), some (.inl (gbF S 6 (sf S l) 0 &&& (gbF S 6 (se S l) 0 ^^^ -1))), some (.inl (gbF S 6 (se S l) 0 &&& (gbF S 6 (sf S l) 0 ^^^ -1))), o7, none, o9, none], [.inl 1, .inl (gbF S 6 (se S l) 0 &&& (gbF S 6 (sf S l) 0 ^^^ -1)), .inr (.inr (6, 0, 0))], (tk_so I 6 0 Z, tk_so J 6 0 (tk_u1 (J 6 0) 21 r), R)) _
        refine dn_call rfl rfl rfl rfl rfl (sm_sumOf1 hPZ2 w ?_)
        show tkDn tm_156 (90, [some (.inr (.inr (6, 0, 0))), some (.inl (nI l)), some (.inl (nI (rtF S 6 (sf S l)))), some (.inl (gbF S 6 (sf S l) 0)), some (.inl (nI (rtF S 6 (se S l)))), some (.inl (gbF S 6 (sf S l) 0 &&& (gbF S 6 (se S l) 0 ^^^ -1))), some (.inl (gbF S 6 (se S l) 0 &&& (gbF S 6 (sf S l) 0 ^^^ -1))), o7, none, o9, none], [.inr (.inl (slS S (gbF S 6 (se S l) 0 &&& (gbF S 6 (sf S l) 0 ^^^ -1)) 63 (sG S)))], (tk_so I 6 0 Z, tk_so J 6 0 (tk_u1 (J 6 0) 21 r), R)) _
        refine dn_run 3 (show tkDn tm_156 (94, [some (.inr (.inr (6, 0, 0))), some (.inl (nI l)), some (.inl (nI (rtF S 6 (sf S l)))), some (.inl (gbF S 6 (sf S l) 0)), some (.inl (nI (rtF S 6 (se S l)))), some (.inl (gbF S 6 (sf S l) 0 &&& (gbF S 6 (se S l) 0 ^^^ -1))), some (.inl (gbF S 6 (se S l) 0 &&& (gbF S 6 (sf S l) 0 ^^^ -1))), o7, none, o9, none], [.inl 0, .inl (gbF S 6 (sf S l) 0 &&& (gbF S 6 (se S l) 0 ^^^ -1)), .inr (.inr (6, 0, 0)), .inr (.inl (slS S (gbF S 6 (se S l) 0 &&& (gbF S 6 (sf S l) 0 ^^^ -1)) 63 (sG S)))], (tk_so I 6 0 Z, tk_so J 6 0 (tk_u1 (J 6 0) 21 r), R)) _ from ?_)
        refine dn_call rfl rfl rfl rfl rfl (sm_sumOf0 hPZ2 w ?_)
        show tkDn tm_156 (97, [some (.inr (.inr (6, 0, 0))), some (.inl (nI l)), some (.inl (nI (rtF S 6 (sf S l)))), some (.inl (gbF S 6 (sf S l) 0)), some (.inl (nI (rtF S 6 (se S l)))), some (.inl (gbF S 6 (sf S l) 0 &&& (gbF S 6 (se S l) 0 ^^^ -1))), some (.inl (gbF S 6 (se S l) 0 &&& (gbF S 6 (sf S l) 0 ^^^ -1))), o7, none, o9, none], [.inr (.inl (slS S (gbF S 6 (sf S l) 0 &&& (gbF S 6 (se S l) 0 ^^^ -1)) 0 (sG S))), .inr (.inl (slS S (gbF S 6 (se S l) 0 &&& (gbF S 6 (sf S l) 0 ^^^ -1)) 63 (sG S)))], (tk_so I 6 0 Z, tk_so J 6 0 (tk_u1 (J 6 0) 21 r), R)) _
        refine dn_run 5 (show tkDn tm_156 (104, [some (.inr (.inr (6, 0, 0))), some (.inl (nI l)), some (.inl (nI (rtF S 6 (sf S l)))), some (.inl (gbF S 6 (sf S l) 0)), some (.inl (nI (rtF S 6 (se S l)))), some (.inl (gbF S 6 (sf S l) 0 &&& (gbF S 6 (se S l) 0 ^^^ -1))), some (.inl (gbF S 6 (se S l) 0 &&& (gbF S 6 (sf S l) 0 ^^^ -1))), some (.inr (.inl ((slS S (gbF S 6 (se S l) 0 &&& (gbF S 6 (sf S l) 0 ^^^ -1)) 63 (sG S)) - (slS S (gbF S 6 (sf S l) 0 &&& (gbF S 6 (se S l) 0 ^^^ -1)) 0 (sG S))))), none, o9, none], [.inl 0, .inl (gbF S 6 (se S l) 0 &&& (gbF S 6 (sf S l) 0 ^^^ -1)), .inr (.inr (6, 0, 0))], (tk_so I 6 0 Z, tk_so J 6 0 (tk_u1 (J 6 0) 21 r), R)) _ from ?_)
        refine dn_call rfl rfl rfl rfl rfl (sm_sumOf0 hPZ2 w ?_)
        show tkDn tm_156 (107, [some (.inr (.inr (6, 0, 0))), some (.inl (nI l)), some (.inl (nI (rtF S 6 (sf S l)))), some (.inl (gbF S 6 (sf S l) 0)), some (.inl (nI (rtF S 6 (se S l)))), some (.inl (gbF S 6 (sf S l) 0 &&& (gbF S 6 (se S l) 0 ^^^ -1))), some (.inl (gbF S 6 (se S l) 0 &&& (gbF S 6 (sf S l) 0 ^^^ -1))), some (.inr (.inl ((slS S (gbF S 6 (se S l) 0 &&& (gbF S 6 (sf S l) 0 ^^^ -1)) 63 (sG S)) - (slS S (gbF S 6 (sf S l) 0 &&& (gbF S 6 (se S l) 0 ^^^ -1)) 0 (sG S))))), none, o9, none], [.inr (.inl (slS S (gbF S 6 (se S l) 0 &&& (gbF S 6 (sf S l) 0 ^^^ -1)) 0 (sG S)))], (tk_so I 6 0 Z, tk_so J 6 0 (tk_u1 (J 6 0) 21 r), R)) _
        refine dn_run 3 (show tkDn tm_156 (111, [some (.inr (.inr (6, 0, 0))), some (.inl (nI l)), some (.inl (nI (rtF S 6 (sf S l)))), some (.inl (gbF S 6 (sf S l) 0)), some (.inl (nI (rtF S 6 (se S l)))), some (.inl (gbF S 6 (sf S l) 0 &&& (gbF S 6 (se S l) 0 ^^^ -1))), some (.inl (gbF S 6 (se S l) 0 &&& (gbF S 6 (sf S l) 0 ^^^ -1))), some (.inr (.inl ((slS S (gbF S 6 (se S l) 0 &&& (gbF S 6 (sf S l) 0 ^^^ -1)) 63 (sG S)) - (slS S (gbF S 6 (sf S l) 0 &&& (gbF S 6 (se S l) 0 ^^^ -1)) 0 (sG S))))), none, o9, none], [.inl 1, .inl (gbF S 6 (sf S l) 0 &&& (gbF S 6 (se S l) 0 ^^^ -1)), .inr (.inr (6, 0, 0)), .inr (.inl (slS S (gbF S 6 (se S l) 0 &&& (gbF S 6 (sf S l) 0 ^^^ -1)) 0 (sG S)))], (tk_so I 6 0 Z, tk_so J 6 0 (tk_u1 (J 6 0) 21 r), R)) _ from ?_)
        refine dn_call rfl rfl rfl rfl rfl (sm_sumOf1 hPZ2 w ?_)
        show tkDn tm_156 (114, [some (.inr (.inr (6, 0, 0))), some (.inl (nI l)), some (.inl (nI (rtF S 6 (sf S l)))), some (.inl (gbF S 6 (sf S l) 0)), some (.inl (nI (rtF S 6 (se S l)))), some (.inl (gbF S 6 (sf S l) 0 &&& (gbF S 6 (se S l) 0 ^^^ -1))), some (.inl (gbF S 6 (se S l) 0 &&& (gbF S 6 (sf S l) 0 ^^^ -1))), some (.inr (.inl ((slS S (gbF S 6 (se S l) 0 &&& (gbF S 6 (sf S l) 0 ^^^ -1)) 63 (sG S)) - (slS S (gbF S 6 (sf S l) 0 &&& (gbF S 6 (se S l) 0 ^^^ -1)) 0 (sG S))))), none, o9, none], [.inr (.inl (slS S (gbF S 6 (sf S l) 0 &&& (gbF S 6 (se S l) 0 ^^^ -1)) 63 (sG S))), .inr (.inl (slS S (gbF S 6 (se S l) 0 &&& (gbF S 6 (sf S l) 0 ^^^ -1)) 0 (sG S)))], (tk_so I 6 0 Z, tk_so J 6 0 (tk_u1 (J 6 0) 21 r), R)) _
        refine dn_run 12 (show (vp_in (nI l) 60) ∧ tkDn tm_156 (131, [some (.inr (.inr (6, 0, 0))), some (.inl (nI l)), some (.inl (nI (rtF S 6 (sf S l)))), some (.inl (gbF S 6 (sf S l) 0)), some (.inl (nI (rtF S 6 (se S l)))), some (.inl (gbF S 6 (sf S l) 0 &&& (gbF S 6 (se S l) 0 ^^^ -1))), some (.inl (gbF S 6 (se S l) 0 &&& (gbF S 6 (sf S l) 0 ^^^ -1))), some (.inr (.inl ((slS S (gbF S 6 (se S l) 0 &&& (gbF S 6 (sf S l) 0 ^^^ -1)) 63 (sG S)) - (slS S (gbF S 6 (sf S l) 0 &&& (gbF S 6 (se S l) 0 ^^^ -1)) 0 (sG S))))), none, some (.inr (.inl ((slS S (gbF S 6 (se S l) 0 &&& (gbF S 6 (sf S l) 0 ^^^ -1)) 0 (sG S)) - (slS S (gbF S 6 (sf S l) 0 &&& (gbF S 6 (se S l) 0 ^^^ -1)) 63 (sG S))))), none], [.inr (.inl ((((Z 7 ((nI l).toNatClampNeg)) : Int32).toInt64) - ((slS S (gbF S 6 (se S l) 0 &&& (gbF S 6 (sf S l) 0 ^^^ -1)) 63 (sG S)) - (slS S (gbF S 6 (sf S l) 0 &&& (gbF S 6 (se S l) 0 ^^^ -1)) 0 (sG S))))), .inl (nI (rtF S 6 (se S l))), .inl (nI (rtF S 6 (sf S l))), .inr (.inr (6, 0, 0))], (tk_so I 6 0 Z, tk_so J 6 0 (tk_u1 (J 6 0) 21 r), R)) _ from ⟨vp_in_nI (by omega) (by omega), ?_⟩)
        rw [e7]
        show tkDn tm_156 (131, [some (.inr (.inr (6, 0, 0))), some (.inl (nI l)), some (.inl (nI (rtF S 6 (sf S l)))), some (.inl (gbF S 6 (sf S l) 0)), some (.inl (nI (rtF S 6 (se S l)))), some (.inl (gbF S 6 (sf S l) 0 &&& (gbF S 6 (se S l) 0 ^^^ -1))), some (.inl (gbF S 6 (se S l) 0 &&& (gbF S 6 (sf S l) 0 ^^^ -1))), some (.inr (.inl ((slS S (gbF S 6 (se S l) 0 &&& (gbF S 6 (sf S l) 0 ^^^ -1)) 63 (sG S)) - (slS S (gbF S 6 (sf S l) 0 &&& (gbF S 6 (se S l) 0 ^^^ -1)) 0 (sG S))))), none, some (.inr (.inl ((slS S (gbF S 6 (se S l) 0 &&& (gbF S 6 (sf S l) 0 ^^^ -1)) 0 (sG S)) - (slS S (gbF S 6 (sf S l) 0 &&& (gbF S 6 (se S l) 0 ^^^ -1)) 63 (sG S))))), none], [.inr (.inl ((shi S l).toInt64 - (slS S (gbF S 6 (se S l) 0 &&& (gbF S 6 (sf S l) 0 ^^^ -1)) 63 (sG S) - slS S (gbF S 6 (sf S l) 0 &&& (gbF S 6 (se S l) 0 ^^^ -1)) 0 (sG S)))), .inl (nI (rtF S 6 (se S l))), .inl (nI (rtF S 6 (sf S l))), .inr (.inr (6, 0, 0))], (tk_so I 6 0 Z, tk_so J 6 0 (tk_u1 (J 6 0) 21 r), R)) _
        refine dn_call rfl rfl rfl rfl rfl (sm_step (by omega) (by omega) ?_)
        rw [tk_so_so, tk_so_same, tk_u1_u1, tk_u1_same]
        show tkDn tm_156 (134, [some (.inr (.inr (6, 0, 0))), some (.inl (nI l)), some (.inl (nI (rtF S 6 (sf S l)))), some (.inl (gbF S 6 (sf S l) 0)), some (.inl (nI (rtF S 6 (se S l)))), some (.inl (gbF S 6 (sf S l) 0 &&& (gbF S 6 (se S l) 0 ^^^ -1))), some (.inl (gbF S 6 (se S l) 0 &&& (gbF S 6 (sf S l) 0 ^^^ -1))), some (.inr (.inl ((slS S (gbF S 6 (se S l) 0 &&& (gbF S 6 (sf S l) 0 ^^^ -1)) 63 (sG S)) - (slS S (gbF S 6 (sf S l) 0 &&& (gbF S 6 (se S l) 0 ^^^ -1)) 0 (sG S))))), none, some (.inr (.inl ((slS S (gbF S 6 (se S l) 0 &&& (gbF S 6 (sf S l) 0 ^^^ -1)) 0 (sG S)) - (slS S (gbF S 6 (sf S l) 0 &&& (gbF S 6 (se S l) 0 ^^^ -1)) 63 (sG S))))), none], [], (tk_so I 6 0 Z, tk_so J 6 0 (tk_u1 (J 6 0) 21 (low1 r (16 * rtF S 6 (sf S l) + rtF S 6 (se S l)) ((shi S l).toInt64 - (slS S (gbF S 6 (se S l) 0 &&& (gbF S 6 (sf S l) 0 ^^^ -1)) 63 (sG S) - slS S (gbF S 6 (sf S l) 0 &&& (gbF S 6 (se S l) 0 ^^^ -1)) 0 (sG S))))), R)) _
        refine dn_run 10 (show (vp_in (nI l) 60) ∧ tkDn tm_156 (148, [some (.inr (.inr (6, 0, 0))), some (.inl (nI l)), some (.inl (nI (rtF S 6 (sf S l)))), some (.inl (gbF S 6 (sf S l) 0)), some (.inl (nI (rtF S 6 (se S l)))), some (.inl (gbF S 6 (sf S l) 0 &&& (gbF S 6 (se S l) 0 ^^^ -1))), some (.inl (gbF S 6 (se S l) 0 &&& (gbF S 6 (sf S l) 0 ^^^ -1))), some (.inr (.inl ((slS S (gbF S 6 (se S l) 0 &&& (gbF S 6 (sf S l) 0 ^^^ -1)) 63 (sG S)) - (slS S (gbF S 6 (sf S l) 0 &&& (gbF S 6 (se S l) 0 ^^^ -1)) 0 (sG S))))), none, some (.inr (.inl ((slS S (gbF S 6 (se S l) 0 &&& (gbF S 6 (sf S l) 0 ^^^ -1)) 0 (sG S)) - (slS S (gbF S 6 (sf S l) 0 &&& (gbF S 6 (se S l) 0 ^^^ -1)) 63 (sG S))))), none], [.inr (.inl (((slS S (gbF S 6 (se S l) 0 &&& (gbF S 6 (sf S l) 0 ^^^ -1)) 0 (sG S)) - (slS S (gbF S 6 (sf S l) 0 &&& (gbF S 6 (se S l) 0 ^^^ -1)) 63 (sG S))) - (((Z 6 ((nI l).toNatClampNeg)) : Int32).toInt64))), .inl (nI (rtF S 6 (sf S l))), .inl (nI (rtF S 6 (se S l))), .inr (.inr (6, 0, 0))], (tk_so I 6 0 Z, tk_so J 6 0 (tk_u1 (J 6 0) 21 (low1 r (16 * rtF S 6 (sf S l) + rtF S 6 (se S l)) ((shi S l).toInt64 - (slS S (gbF S 6 (se S l) 0 &&& (gbF S 6 (sf S l) 0 ^^^ -1)) 63 (sG S) - slS S (gbF S 6 (sf S l) 0 &&& (gbF S 6 (se S l) 0 ^^^ -1)) 0 (sG S))))), R)) _ from ⟨vp_in_nI (by omega) (by omega), ?_⟩)
        rw [e6]
        show tkDn tm_156 (148, [some (.inr (.inr (6, 0, 0))), some (.inl (nI l)), some (.inl (nI (rtF S 6 (sf S l)))), some (.inl (gbF S 6 (sf S l) 0)), some (.inl (nI (rtF S 6 (se S l)))), some (.inl (gbF S 6 (sf S l) 0 &&& (gbF S 6 (se S l) 0 ^^^ -1))), some (.inl (gbF S 6 (se S l) 0 &&& (gbF S 6 (sf S l) 0 ^^^ -1))), some (.inr (.inl ((slS S (gbF S 6 (se S l) 0 &&& (gbF S 6 (sf S l) 0 ^^^ -1)) 63 (sG S)) - (slS S (gbF S 6 (sf S l) 0 &&& (gbF S 6 (se S l) 0 ^^^ -1)) 0 (sG S))))), none, some (.inr (.inl ((slS S (gbF S 6 (se S l) 0 &&& (gbF S 6 (sf S l) 0 ^^^ -1)) 0 (sG S)) - (slS S (gbF S 6 (sf S l) 0 &&& (gbF S 6 (se S l) 0 ^^^ -1)) 63 (sG S))))), none], [.inr (.inl ((slS S (gbF S 6 (se S l) 0 &&& (gbF S 6 (sf S l) 0 ^^^ -1)) 0 (sG S) - slS S (gbF S 6 (sf S l) 0 &&& (gbF S 6 (se S l) 0 ^^^ -1)) 63 (sG S)) - (slo S l).toInt64)), .inl (nI (rtF S 6 (sf S l))), .inl (nI (rtF S 6 (se S l))), .inr (.inr (6, 0, 0))], (tk_so I 6 0 Z, tk_so J 6 0 (tk_u1 (J 6 0) 21 (low1 r (16 * rtF S 6 (sf S l) + rtF S 6 (se S l)) ((shi S l).toInt64 - (slS S (gbF S 6 (se S l) 0 &&& (gbF S 6 (sf S l) 0 ^^^ -1)) 63 (sG S) - slS S (gbF S 6 (sf S l) 0 &&& (gbF S 6 (se S l) 0 ^^^ -1)) 0 (sG S))))), R)) _
        refine dn_call rfl rfl rfl rfl rfl (sm_step (by omega) (by omega) ?_)
        rw [tk_so_so, tk_so_same, tk_u1_u1, tk_u1_same]
        show tkDn tm_156 (151, [some (.inr (.inr (6, 0, 0))), some (.inl (nI l)), some (.inl (nI (rtF S 6 (sf S l)))), some (.inl (gbF S 6 (sf S l) 0)), some (.inl (nI (rtF S 6 (se S l)))), some (.inl (gbF S 6 (sf S l) 0 &&& (gbF S 6 (se S l) 0 ^^^ -1))), some (.inl (gbF S 6 (se S l) 0 &&& (gbF S 6 (sf S l) 0 ^^^ -1))), some (.inr (.inl ((slS S (gbF S 6 (se S l) 0 &&& (gbF S 6 (sf S l) 0 ^^^ -1)) 63 (sG S)) - (slS S (gbF S 6 (sf S l) 0 &&& (gbF S 6 (se S l) 0 ^^^ -1)) 0 (sG S))))), none, some (.inr (.inl ((slS S (gbF S 6 (se S l) 0 &&& (gbF S 6 (sf S l) 0 ^^^ -1)) 0 (sG S)) - (slS S (gbF S 6 (sf S l) 0 &&& (gbF S 6 (se S l) 0 ^^^ -1)) 63 (sG S))))), none], [], (tk_so I 6 0 Z, tk_so J 6 0 (tk_u1 (J 6 0) 21 (low1 (low1 r (16 * rtF S 6 (sf S l) + rtF S 6 (se S l)) ((shi S l).toInt64 - (slS S (gbF S 6 (se S l) 0 &&& (gbF S 6 (sf S l) 0 ^^^ -1)) 63 (sG S) - slS S (gbF S 6 (sf S l) 0 &&& (gbF S 6 (se S l) 0 ^^^ -1)) 0 (sG S)))) (16 * rtF S 6 (se S l) + rtF S 6 (sf S l)) ((slS S (gbF S 6 (se S l) 0 &&& (gbF S 6 (sf S l) 0 ^^^ -1)) 0 (sG S) - slS S (gbF S 6 (sf S l) 0 &&& (gbF S 6 (se S l) 0 ^^^ -1)) 63 (sG S)) - (slo S l).toInt64))), R)) _
        refine dn_run 2 (show tkDn tm_156 (10, [some (.inr (.inr (6, 0, 0))), some (.inl ((nI l) + 1)), some (.inl (nI (rtF S 6 (sf S l)))), some (.inl (gbF S 6 (sf S l) 0)), some (.inl (nI (rtF S 6 (se S l)))), some (.inl (gbF S 6 (sf S l) 0 &&& (gbF S 6 (se S l) 0 ^^^ -1))), some (.inl (gbF S 6 (se S l) 0 &&& (gbF S 6 (sf S l) 0 ^^^ -1))), some (.inr (.inl ((slS S (gbF S 6 (se S l) 0 &&& (gbF S 6 (sf S l) 0 ^^^ -1)) 63 (sG S)) - (slS S (gbF S 6 (sf S l) 0 &&& (gbF S 6 (se S l) 0 ^^^ -1)) 0 (sG S))))), none, some (.inr (.inl ((slS S (gbF S 6 (se S l) 0 &&& (gbF S 6 (sf S l) 0 ^^^ -1)) 0 (sG S)) - (slS S (gbF S 6 (sf S l) 0 &&& (gbF S 6 (se S l) 0 ^^^ -1)) 63 (sG S))))), none], [], (tk_so I 6 0 Z, tk_so J 6 0 (tk_u1 (J 6 0) 21 (low1 (low1 r (16 * rtF S 6 (sf S l) + rtF S 6 (se S l)) ((shi S l).toInt64 - (slS S (gbF S 6 (se S l) 0 &&& (gbF S 6 (sf S l) 0 ^^^ -1)) 63 (sG S) - slS S (gbF S 6 (sf S l) 0 &&& (gbF S 6 (se S l) 0 ^^^ -1)) 0 (sG S)))) (16 * rtF S 6 (se S l) + rtF S 6 (sf S l)) ((slS S (gbF S 6 (se S l) 0 &&& (gbF S 6 (sf S l) 0 ^^^ -1)) 0 (sG S) - slS S (gbF S 6 (sf S l) 0 &&& (gbF S 6 (se S l) 0 ^^^ -1)) 63 (sG S)) - (slo S l).toInt64))), R)) _ from ?_)
        rw [nI_1]
        refine ih (l + 1) _ Z _ _ _ _ _ _ _ (by omega) hZ1 ?_
        unfold mstM
        rw [if_pos c2]
        exact (hr.low (by omega) hra hrb).low (by omega) hrb hra
set_option maxRecDepth 8000 in
theorem sm_strong {I : tkI} {J : tkJ} {R : Nat → Nat} {Q : tkQ} {S : tkS} (hP : NetP (I 6 0) S) (w : WF S) (hQ : ∀ X r, mRoot (I 6 0) X → Q (some (.inl (if (mstr S).1 = true then 1 else 0))) (tk_so I 6 0 X, tk_so J 6 0 (tk_u1 (J 6 0) 21 r), R)) : tkDn tm_156 (0, [some (.inr (.inr (6, 0, 0))), none, none, none, none, none, none, none, none, none, none], [], (I, J, R)) Q := by
  have hM16 := w.1
  have hM := hP.m
  refine dn_run 3 (show tkDn tm_156 (5, [some (.inr (.inr (6, 0, 0))), none, none, none, none, none, none, none, none, none, none], [.inl (I 6 0 0 0), .inr (.inr (6, 0, 0))], (I, J, R)) _ from ?_)
  rw [hM]
  show tkDn tm_156 (5, [some (.inr (.inr (6, 0, 0))), none, none, none, none, none, none, none, none, none, none], [.inl (nI (sM S)), .inr (.inr (6, 0, 0))], (I, J, R)) _
  refine dn_call rfl rfl rfl rfl rfl (sm_clearWays hM16 (fun r hr => ?_))
  show tkDn tm_156 (8, [some (.inr (.inr (6, 0, 0))), none, none, none, none, none, none, none, none, none, none], [], (I, tk_so J 6 0 (tk_u1 (J 6 0) 21 r), R)) _
  refine dn_run 2 (show tkDn tm_156 (10, [some (.inr (.inr (6, 0, 0))), some (.inl 0), none, none, none, none, none, none, none, none, none], [], (I, tk_so J 6 0 (tk_u1 (J 6 0) 21 r), R)) _ from ?_)
  have key := sm_strong_loop (J := J) hP w hQ (sL S) 0 r (I 6 0) none none none none none none none (Nat.zero_add _) (fun _ _ _ => rfl) hr
  rw [tk_so_id] at key
  exact key
