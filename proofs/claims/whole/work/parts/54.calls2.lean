/-! the class: the calls that ask, and the calls of a run -/
set_option maxRecDepth 8000 in
theorem sx_together {I : tkI} {J : tkJ} {R : Nat → Nat} {Q : tkQ} {S : tkS} {z : Nat} {B : Nat → Int32} {on : Int32} {T : Nat → Int32} {t : Int32} (w : WF S) (C : CInv S z B on T t I J R) (hQ : ∀ I' J' R', CInv S z B on T t I' J' R' → I' 6 0 = I 6 0 → J' 6 0 = J 6 0 → Q (some (.inl (if (togF S).1 = true then 1 else 0))) (I', J', R')) : tkDn tm_107 (0, [some (.inr (.inr (5, 0, 0)))], [], (I, J, R)) Q := by
  have hM16 := w.1
  have hL60 := w.2.1
  have hG6 := w.2.2.1
  have C2 := C
  obtain ⟨⟨b0, b1, b01⟩, cP, cT, cC, cW, cO, cR⟩ := C
  refine dn_run 4 (show tkDn tm_107 (8, [some (.inr (.inr (5, 0, 0)))], [.inr (.inr (1, R 0, 0)), .inr (.inr (0, 0, 0))], (I, J, R)) _ from ?_)
  refine dn_call rfl rfl rfl rfl rfl (sc_hangsTogether cP w (fun r hr => ?_))
  show tkDn tm_107 (11, [some (.inr (.inr (5, 0, 0)))], [.inl (if (togF S).1 = true then 1 else 0)], (I, tk_so J 0 0 (tk_u1 (J 0 0) 1 r), R)) _
  refine dn_if rfl rfl rfl (fun (c : (if (togF S).1 = true then 1 else 0) = 0) => ?_) (fun (c : ¬ (if (togF S).1 = true then 1 else 0) = 0) => ?_)
  · show tkDn tm_107 (18, [some (.inr (.inr (5, 0, 0)))], [], (I, tk_so J 0 0 (tk_u1 (J 0 0) 1 r), R)) _
    refine dn_run 1 (show tkDn tm_107 (19, [some (.inr (.inr (5, 0, 0)))], [.inl 0], (I, tk_so J 0 0 (tk_u1 (J 0 0) 1 r), R)) _ from ?_)
    refine dn_ret0 rfl rfl rfl rfl ?_
    rw [if_neg (ite10.mp c)] at hQ; exact hQ _ _ _ (C2.to rfl rfl rfl rfl (tk_so_ne (by omega)) rfl) rfl (tk_so_ne (by omega))
  · show tkDn tm_107 (14, [some (.inr (.inr (5, 0, 0)))], [], (I, tk_so J 0 0 (tk_u1 (J 0 0) 1 r), R)) _
    refine dn_run 2 (show tkDn tm_107 (19, [some (.inr (.inr (5, 0, 0)))], [.inl 1], (I, tk_so J 0 0 (tk_u1 (J 0 0) 1 r), R)) _ from ?_)
    refine dn_ret0 rfl rfl rfl rfl ?_
    rw [if_pos (Classical.byContradiction fun q => c (ite10.mpr q))] at hQ; exact hQ _ _ _ (C2.to rfl rfl rfl rfl (tk_so_ne (by omega)) rfl) rfl (tk_so_ne (by omega))
set_option maxRecDepth 8000 in
theorem sx_strong {I : tkI} {J : tkJ} {R : Nat → Nat} {Q : tkQ} {S : tkS} {z : Nat} {B : Nat → Int32} {on : Int32} {T : Nat → Int32} {t : Int32} (w : WF S) (C : CInv S z B on T t I J R) (hQ : ∀ I' J' R', CInv S z B on T t I' J' R' → I' 6 0 = I 6 0 → J' 6 0 = J 6 0 → Q (some (.inl (if (strF S).1 = true then 1 else 0))) (I', J', R')) : tkDn tm_109 (0, [some (.inr (.inr (5, 0, 0)))], [], (I, J, R)) Q := by
  have hM16 := w.1
  have hL60 := w.2.1
  have hG6 := w.2.2.1
  have C2 := C
  obtain ⟨⟨b0, b1, b01⟩, cP, cT, cC, cW, cO, cR⟩ := C
  refine dn_run 4 (show tkDn tm_109 (8, [some (.inr (.inr (5, 0, 0)))], [.inr (.inr (1, R 0, 0)), .inr (.inr (0, 0, 0))], (I, J, R)) _ from ?_)
  refine dn_call rfl rfl rfl rfl rfl (sc_isStrong cP w (fun r hr => ?_))
  show tkDn tm_109 (11, [some (.inr (.inr (5, 0, 0)))], [.inl (if (strF S).1 = true then 1 else 0)], (I, tk_so J 0 0 (tk_u1 (J 0 0) 1 r), R)) _
  refine dn_if rfl rfl rfl (fun (c : (if (strF S).1 = true then 1 else 0) = 0) => ?_) (fun (c : ¬ (if (strF S).1 = true then 1 else 0) = 0) => ?_)
  · show tkDn tm_109 (18, [some (.inr (.inr (5, 0, 0)))], [], (I, tk_so J 0 0 (tk_u1 (J 0 0) 1 r), R)) _
    refine dn_run 1 (show tkDn tm_109 (19, [some (.inr (.inr (5, 0, 0)))], [.inl 0], (I, tk_so J 0 0 (tk_u1 (J 0 0) 1 r), R)) _ from ?_)
    refine dn_ret0 rfl rfl rfl rfl ?_
    rw [if_neg (ite10.mp c)] at hQ; exact hQ _ _ _ (C2.to rfl rfl rfl rfl (tk_so_ne (by omega)) rfl) rfl (tk_so_ne (by omega))
  · show tkDn tm_109 (14, [some (.inr (.inr (5, 0, 0)))], [], (I, tk_so J 0 0 (tk_u1 (J 0 0) 1 r), R)) _
    refine dn_run 2 (show tkDn tm_109 (19, [some (.inr (.inr (5, 0, 0)))], [.inl 1], (I, tk_so J 0 0 (tk_u1 (J 0 0) 1 r), R)) _ from ?_)
    refine dn_ret0 rfl rfl rfl rfl ?_
    rw [if_pos (Classical.byContradiction fun q => c (ite10.mpr q))] at hQ; exact hQ _ _ _ (C2.to rfl rfl rfl rfl (tk_so_ne (by omega)) rfl) rfl (tk_so_ne (by omega))
def cdis (S : tkS) (u v : Int32) : Int64 := if hasM S u ∧ hasM S v then (if (togF S).1 = true then (togF S).2 u.toNatClampNeg v.toNatClampNeg else 0) else 0
set_option maxRecDepth 8000 in
theorem sx_distance {I : tkI} {J : tkJ} {R : Nat → Nat} {Q : tkQ} {S : tkS} {z : Nat} {B : Nat → Int32} {on : Int32} {T : Nat → Int32} {t : Int32} (w : WF S) (C : CInv S z B on T t I J R) {u v : Int32} (hQ : ∀ I' J' R', CInv S z B on T t I' J' R' → I' 6 0 = I 6 0 → J' 6 0 = J 6 0 → Q (some (.inr (.inl (cdis S u v)))) (I', J', R')) : tkDn tm_108 (0, [some (.inr (.inr (5, 0, 0))), some (.inl u), some (.inl v)], [], (I, J, R)) Q := by
  have hM16 := w.1
  have hL60 := w.2.1
  have hG6 := w.2.2.1
  have C2 := C
  obtain ⟨⟨b0, b1, b01⟩, cP, cT, cC, cW, cO, cR⟩ := C
  refine dn_run 3 (show tkDn tm_108 (5, [some (.inr (.inr (5, 0, 0))), some (.inl u), some (.inl v)], [.inl u, .inr (.inr (1, R 0, 0))], (I, J, R)) _ from ?_)
  refine dn_call rfl rfl rfl rfl rfl (sn_hasMoment ?_)
  rw [cP.m]
  show tkDn tm_108 (8, [some (.inr (.inr (5, 0, 0))), some (.inl u), some (.inl v)], [.inl (if 0 ≤ u ∧ u < nI (sM S) then 1 else 0)], (I, J, R)) _
  refine dn_if rfl rfl rfl (fun (c1 : (if 0 ≤ u ∧ u < nI (sM S) then 1 else 0) = 0) => ?_) (fun (c1 : ¬ (if 0 ≤ u ∧ u < nI (sM S) then 1 else 0) = 0) => ?_)
  · show tkDn tm_108 (22, [some (.inr (.inr (5, 0, 0))), some (.inl u), some (.inl v)], [], (I, J, R)) _
    refine dn_run 1 (show tkDn tm_108 (23, [some (.inr (.inr (5, 0, 0))), some (.inl u), some (.inl v)], [.inr (.inl 0)], (I, J, R)) _ from ?_)
    refine dn_ret0 rfl rfl rfl rfl ?_
    rw [show cdis S u v = 0 from if_neg (fun q => ite10.mp c1 q.1)] at hQ; exact hQ I J R C2 rfl rfl
  · show tkDn tm_108 (11, [some (.inr (.inr (5, 0, 0))), some (.inl u), some (.inl v)], [], (I, J, R)) _
    refine dn_run 3 (show tkDn tm_108 (16, [some (.inr (.inr (5, 0, 0))), some (.inl u), some (.inl v)], [.inl v, .inr (.inr (1, R 0, 0))], (I, J, R)) _ from ?_)
    refine dn_call rfl rfl rfl rfl rfl (sn_hasMoment ?_)
    rw [cP.m]
    show tkDn tm_108 (19, [some (.inr (.inr (5, 0, 0))), some (.inl u), some (.inl v)], [.inl (if 0 ≤ v ∧ v < nI (sM S) then 1 else 0)], (I, J, R)) _
    refine dn_if rfl rfl rfl (fun (c2 : ¬ (if 0 ≤ v ∧ v < nI (sM S) then 1 else 0) = 0) => ?_) (fun (c2 : (if 0 ≤ v ∧ v < nI (sM S) then 1 else 0) = 0) => ?_)
    · show tkDn tm_108 (24, [some (.inr (.inr (5, 0, 0))), some (.inl u), some (.inl v)], [], (I, J, R)) _
      have h1 : hasM S u := Classical.byContradiction fun q => c1 (ite10.mpr q)
      have h2 : hasM S v := Classical.byContradiction fun q => c2 (ite10.mpr q)
      obtain ⟨i, hi, ei, ci⟩ := hasM_nat w.1 h1
      obtain ⟨j, hj, ej, cj⟩ := hasM_nat w.1 h2
      refine dn_run 4 (show tkDn tm_108 (32, [some (.inr (.inr (5, 0, 0))), some (.inl u), some (.inl v)], [.inr (.inr (1, R 0, 0)), .inr (.inr (0, 0, 0))], (I, J, R)) _ from ?_)
      refine dn_call rfl rfl rfl rfl rfl (sc_hangsTogether cP w (fun r hr => ?_))
      show tkDn tm_108 (35, [some (.inr (.inr (5, 0, 0))), some (.inl u), some (.inl v)], [.inl (if (togF S).1 = true then 1 else 0)], (I, tk_so J 0 0 (tk_u1 (J 0 0) 1 r), R)) _
      refine dn_if rfl rfl rfl (fun (c3 : (if (togF S).1 = true then 1 else 0) = 0) => ?_) (fun (c3 : ¬ (if (togF S).1 = true then 1 else 0) = 0) => ?_)
      · show tkDn tm_108 (50, [some (.inr (.inr (5, 0, 0))), some (.inl u), some (.inl v)], [], (I, tk_so J 0 0 (tk_u1 (J 0 0) 1 r), R)) _
        refine dn_run 1 (show tkDn tm_108 (51, [some (.inr (.inr (5, 0, 0))), some (.inl u), some (.inl v)], [.inr (.inl 0)], (I, tk_so J 0 0 (tk_u1 (J 0 0) 1 r), R)) _ from ?_)
        refine dn_ret0 rfl rfl rfl rfl ?_
        rw [show cdis S u v = 0 from (if_pos ⟨h1, h2⟩).trans (if_neg (ite10.mp c3))] at hQ; exact hQ _ _ _ (C2.to rfl rfl rfl rfl (tk_so_ne (by omega)) rfl) rfl (tk_so_ne (by omega))
      · show tkDn tm_108 (38, [some (.inr (.inr (5, 0, 0))), some (.inl u), some (.inl v)], [], (I, tk_so J 0 0 (tk_u1 (J 0 0) 1 r), R)) _
        have tg := Classical.byContradiction fun q => c3 (ite10.mpr q)
        rw [show cdis S u v = (togF S).2 i j from (if_pos ⟨h1, h2⟩).trans ((if_pos tg).trans (by rw [ci, cj]))] at hQ
        subst ei; subst ej
        show tkDn tm_108 (38, [some (.inr (.inr (5, 0, 0))), some (.inl (nI i)), some (.inl (nI j))], [], (I, tk_so J 0 0 (tk_u1 (J 0 0) 1 r), R)) _
        refine dn_run 4 (show tkDn tm_108 (44, [some (.inr (.inr (5, 0, 0))), some (.inl (nI i)), some (.inl (nI j))], [.inl (nI j), .inl (nI i), .inr (.inr (0, 0, 0))], (I, tk_so J 0 0 (tk_u1 (J 0 0) 1 r), R)) _ from ?_)
        refine dn_call rfl rfl rfl rfl rfl (sc_leastSum (d := (togF S).2) (by rw [tk_so_same, tk_u1_same]; exact hr) (by omega) (by omega) ?_)
        show tkDn tm_108 (47, [some (.inr (.inr (5, 0, 0))), some (.inl (nI i)), some (.inl (nI j))], [.inr (.inl ((togF S).2 i j))], (I, tk_so J 0 0 (tk_u1 (J 0 0) 1 r), R)) _
        refine dn_run 1 (show tkDn tm_108 (51, [some (.inr (.inr (5, 0, 0))), some (.inl (nI i)), some (.inl (nI j))], [.inr (.inl ((togF S).2 i j))], (I, tk_so J 0 0 (tk_u1 (J 0 0) 1 r), R)) _ from ?_)
        refine dn_ret0 rfl rfl rfl rfl ?_
        exact hQ _ _ _ (C2.to rfl rfl rfl rfl (tk_so_ne (by omega)) rfl) rfl (tk_so_ne (by omega))
    · show tkDn tm_108 (22, [some (.inr (.inr (5, 0, 0))), some (.inl u), some (.inl v)], [], (I, J, R)) _
      refine dn_run 1 (show tkDn tm_108 (23, [some (.inr (.inr (5, 0, 0))), some (.inl u), some (.inl v)], [.inr (.inl 0)], (I, J, R)) _ from ?_)
      refine dn_ret0 rfl rfl rfl rfl ?_
      rw [show cdis S u v = 0 from if_neg (fun q => ite10.mp c2 q.2)] at hQ; exact hQ I J R C2 rfl rfl
set_option maxRecDepth 8000 in
theorem sx_weak {I : tkI} {J : tkJ} {R : Nat → Nat} {Q : tkQ} {S : tkS} {z : Nat} {B : Nat → Int32} {on : Int32} {T : Nat → Int32} {t : Int32} (w : WF S) (C : CInv S z B on T t I J R) (hQ : ∀ I' J' R', CInv S z B on T t I' J' R' → I' 6 0 = I 6 0 → J' 6 0 = J 6 0 → Q (some (.inl (if spo S = -9 then 1 else 0))) (I', J', R')) : tkDn tm_110 (0, [some (.inr (.inr (5, 0, 0)))], [], (I, J, R)) Q := by
  have hM16 := w.1
  have hL60 := w.2.1
  have hG6 := w.2.2.1
  have C2 := C
  obtain ⟨⟨b0, b1, b01⟩, cP, cT, cC, cW, cO, cR⟩ := C
  refine dn_run 4 (show tkDn tm_110 (8, [some (.inr (.inr (5, 0, 0)))], [.inr (.inr (1, R 0, 0)), .inr (.inr (0, 0, 0))], (I, J, R)) _ from ?_)
  refine dn_call rfl rfl rfl rfl rfl (sc_firstSpoiled cP w cC (fun X r hX => ?_))
  show tkDn tm_110 (11, [some (.inr (.inr (5, 0, 0)))], [.inl (spo S)], (tk_so I 0 0 X, tk_so J 0 0 (tk_u1 (J 0 0) 1 r), R)) _
  refine dn_run 1 (show tkDn tm_110 (13, [some (.inr (.inr (5, 0, 0)))], [.inl (-9), .inl (spo S)], (tk_so I 0 0 X, tk_so J 0 0 (tk_u1 (J 0 0) 1 r), R)) _ from ?_)
  refine dn_if rfl rfl rfl (fun (c : ¬ (spo S) = (-9)) => ?_) (fun (c : (spo S) = (-9)) => ?_)
  · show tkDn tm_110 (20, [some (.inr (.inr (5, 0, 0)))], [], (tk_so I 0 0 X, tk_so J 0 0 (tk_u1 (J 0 0) 1 r), R)) _
    refine dn_run 1 (show tkDn tm_110 (21, [some (.inr (.inr (5, 0, 0)))], [.inl 0], (tk_so I 0 0 X, tk_so J 0 0 (tk_u1 (J 0 0) 1 r), R)) _ from ?_)
    refine dn_ret0 rfl rfl rfl rfl ?_
    rw [if_neg c] at hQ; exact hQ _ _ _ ⟨⟨b0, b1, b01⟩, by rw [tk_so_ne (by omega)]; exact cP, by rw [tk_so_ne (by omega)]; exact cT, fun _ => by rw [tk_so_same]; exact hX.2, by rw [tk_so_ne (by omega), tk_so_ne (by omega)]; exact cW, by rw [tk_so_ne (by omega)]; exact cO, by rw [tk_so_ne (by omega), tk_so_ne (by omega)]; exact cR⟩ (tk_so_ne (by omega)) (tk_so_ne (by omega))
  · show tkDn tm_110 (16, [some (.inr (.inr (5, 0, 0)))], [], (tk_so I 0 0 X, tk_so J 0 0 (tk_u1 (J 0 0) 1 r), R)) _
    refine dn_run 2 (show tkDn tm_110 (21, [some (.inr (.inr (5, 0, 0)))], [.inl 1], (tk_so I 0 0 X, tk_so J 0 0 (tk_u1 (J 0 0) 1 r), R)) _ from ?_)
    refine dn_ret0 rfl rfl rfl rfl ?_
    rw [if_pos c] at hQ; exact hQ _ _ _ ⟨⟨b0, b1, b01⟩, by rw [tk_so_ne (by omega)]; exact cP, by rw [tk_so_ne (by omega)]; exact cT, fun _ => by rw [tk_so_same]; exact hX.2, by rw [tk_so_ne (by omega), tk_so_ne (by omega)]; exact cW, by rw [tk_so_ne (by omega)]; exact cO, by rw [tk_so_ne (by omega), tk_so_ne (by omega)]; exact cR⟩ (tk_so_ne (by omega)) (tk_so_ne (by omega))
def cspl (S : tkS) (g : Int32) : Int32 := if 0 ≤ g ∧ g < nI (sG S) then (if spo S = -9 then -13 else chL S (spo S) g.toNatClampNeg) else -11
set_option maxRecDepth 8000 in
theorem sx_spoiler {I : tkI} {J : tkJ} {R : Nat → Nat} {Q : tkQ} {S : tkS} {z : Nat} {B : Nat → Int32} {on : Int32} {T : Nat → Int32} {t : Int32} (w : WF S) (C : CInv S z B on T t I J R) {u : Int32} (hQ : ∀ I' J' R', CInv S z B on T t I' J' R' → I' 6 0 = I 6 0 → J' 6 0 = J 6 0 → Q (some (.inl (cspl S u))) (I', J', R')) : tkDn tm_111 (0, [some (.inr (.inr (5, 0, 0))), some (.inl u), none], [], (I, J, R)) Q := by
  have hM16 := w.1
  have hL60 := w.2.1
  have hG6 := w.2.2.1
  have C2 := C
  obtain ⟨⟨b0, b1, b01⟩, cP, cT, cC, cW, cO, cR⟩ := C
  refine dn_run 3 (show tkDn tm_111 (5, [some (.inr (.inr (5, 0, 0))), some (.inl u), none], [.inl u, .inr (.inr (1, R 0, 0))], (I, J, R)) _ from ?_)
  refine dn_call rfl rfl rfl rfl rfl (sn_hasGift ?_)
  rw [cP.g]
  show tkDn tm_111 (8, [some (.inr (.inr (5, 0, 0))), some (.inl u), none], [.inl (if 0 ≤ u ∧ u < nI (sG S) then 1 else 0)], (I, J, R)) _
  refine dn_if rfl rfl rfl (fun (c1 : ¬ (if 0 ≤ u ∧ u < nI (sG S) then 1 else 0) = 0) => ?_) (fun (c1 : (if 0 ≤ u ∧ u < nI (sG S) then 1 else 0) = 0) => ?_)
  · show tkDn tm_111 (14, [some (.inr (.inr (5, 0, 0))), some (.inl u), none], [], (I, J, R)) _
    have h1 : 0 ≤ u ∧ u < nI (sG S) := Classical.byContradiction fun q => c1 (ite10.mpr q)
    obtain ⟨g, hg2, eg⟩ := nI_of (Int32.not_lt.mpr h1.1)
    have hg : g < sG S := by have := h1.2; rw [eg] at this; exact (nI_ltI hg2 (by omega)).mp this
    refine dn_run 4 (show tkDn tm_111 (22, [some (.inr (.inr (5, 0, 0))), some (.inl u), none], [.inr (.inr (1, R 0, 0)), .inr (.inr (0, 0, 0))], (I, J, R)) _ from ?_)
    refine dn_call rfl rfl rfl rfl rfl (sc_firstSpoiled cP w cC (fun X r hX => ?_))
    show tkDn tm_111 (25, [some (.inr (.inr (5, 0, 0))), some (.inl u), none], [.inl (spo S)], (tk_so I 0 0 X, tk_so J 0 0 (tk_u1 (J 0 0) 1 r), R)) _
    refine dn_run 3 (show tkDn tm_111 (29, [some (.inr (.inr (5, 0, 0))), some (.inl u), some (.inl (spo S))], [.inl (-9), .inl (spo S)], (tk_so I 0 0 X, tk_so J 0 0 (tk_u1 (J 0 0) 1 r), R)) _ from ?_)
    refine dn_if rfl rfl rfl (fun (c2 : ¬ (spo S) = (-9)) => ?_) (fun (c2 : (spo S) = (-9)) => ?_)
    · show tkDn tm_111 (37, [some (.inr (.inr (5, 0, 0))), some (.inl u), some (.inl (spo S))], [], (tk_so I 0 0 X, tk_so J 0 0 (tk_u1 (J 0 0) 1 r), R)) _
      rw [show cspl S u = chL S (spo S) g from (if_pos h1).trans ((if_neg c2).trans (by rw [eg, nI_clamp hg2]))] at hQ
      subst eg
      show tkDn tm_111 (37, [some (.inr (.inr (5, 0, 0))), some (.inl (nI g)), some (.inl (spo S))], [], (tk_so I 0 0 X, tk_so J 0 0 (tk_u1 (J 0 0) 1 r), R)) _
      refine dn_run 4 (show tkDn tm_111 (43, [some (.inr (.inr (5, 0, 0))), some (.inl (nI g)), some (.inl (spo S))], [.inl (spo S), .inl (nI g), .inr (.inr (1, R 0, 0))], (tk_so I 0 0 X, tk_so J 0 0 (tk_u1 (J 0 0) 1 r), R)) _ from ?_)
      refine dn_call rfl rfl rfl rfl rfl (sn_chosenLength (by rw [tk_so_ne (by omega)]; exact cP) w hg ?_)
      show tkDn tm_111 (46, [some (.inr (.inr (5, 0, 0))), some (.inl (nI g)), some (.inl (spo S))], [.inl (chL S (spo S) g)], (tk_so I 0 0 X, tk_so J 0 0 (tk_u1 (J 0 0) 1 r), R)) _
      refine dn_ret0 rfl rfl rfl rfl ?_
      exact hQ _ _ _ ⟨⟨b0, b1, b01⟩, by rw [tk_so_ne (by omega)]; exact cP, by rw [tk_so_ne (by omega)]; exact cT, fun _ => by rw [tk_so_same]; exact hX.2, by rw [tk_so_ne (by omega), tk_so_ne (by omega)]; exact cW, by rw [tk_so_ne (by omega)]; exact cO, by rw [tk_so_ne (by omega), tk_so_ne (by omega)]; exact cR⟩ (tk_so_ne (by omega)) (tk_so_ne (by omega))
    · show tkDn tm_111 (32, [some (.inr (.inr (5, 0, 0))), some (.inl u), some (.inl (spo S))], [], (tk_so I 0 0 X, tk_so J 0 0 (tk_u1 (J 0 0) 1 r), R)) _
      refine dn_run 2 (show tkDn tm_111 (46, [some (.inr (.inr (5, 0, 0))), some (.inl u), some (.inl (spo S))], [.inl (-13)], (tk_so I 0 0 X, tk_so J 0 0 (tk_u1 (J 0 0) 1 r), R)) _ from ?_)
      refine dn_ret0 rfl rfl rfl rfl ?_
      rw [show cspl S u = -13 from (if_pos h1).trans (if_pos c2)] at hQ; exact hQ _ _ _ ⟨⟨b0, b1, b01⟩, by rw [tk_so_ne (by omega)]; exact cP, by rw [tk_so_ne (by omega)]; exact cT, fun _ => by rw [tk_so_same]; exact hX.2, by rw [tk_so_ne (by omega), tk_so_ne (by omega)]; exact cW, by rw [tk_so_ne (by omega)]; exact cO, by rw [tk_so_ne (by omega), tk_so_ne (by omega)]; exact cR⟩ (tk_so_ne (by omega)) (tk_so_ne (by omega))
  · show tkDn tm_111 (11, [some (.inr (.inr (5, 0, 0))), some (.inl u), none], [], (I, J, R)) _
    refine dn_run 1 (show tkDn tm_111 (13, [some (.inr (.inr (5, 0, 0))), some (.inl u), none], [.inl (-11)], (I, J, R)) _ from ?_)
    refine dn_ret0 rfl rfl rfl rfl ?_
    rw [show cspl S u = -11 from if_neg (ite10.mp c1)] at hQ; exact hQ I J R C2 rfl rfl
set_option maxRecDepth 8000 in
theorem sx_lively {I : tkI} {J : tkJ} {R : Nat → Nat} {Q : tkQ} {S : tkS} {z : Nat} {B : Nat → Int32} {on : Int32} {T : Nat → Int32} {t : Int32} (w : WF S) (C : CInv S z B on T t I J R) (hQ : ∀ x k e v, WkP S x k e v → ∀ I' J' R', CInv S z B on T t I' J' R' → I' 6 0 = I 6 0 → J' 6 0 = J 6 0 → Q (some (.inl (if x = 1 then 1 else 0))) (I', J', R')) : tkDn tm_112 (0, [some (.inr (.inr (5, 0, 0)))], [], (I, J, R)) Q := by
  have hM16 := w.1
  have hL60 := w.2.1
  have hG6 := w.2.2.1
  have C2 := C
  obtain ⟨⟨b0, b1, b01⟩, cP, cT, cC, cW, cO, cR⟩ := C
  refine dn_run 4 (show tkDn tm_112 (8, [some (.inr (.inr (5, 0, 0)))], [.inr (.inr (1, R 0, 0)), .inr (.inr (4, 0, 0))], (I, J, R)) _ from ?_)
  refine dn_call rfl rfl rfl rfl rfl (sw_isLively cP w cW (fun X N h6 hK => ?_))
  have hK2 := hK
  obtain ⟨x, k, e, v, hw, h7, h8, he, hv⟩ := hK2
  rw [h7]
  show tkDn tm_112 (11, [some (.inr (.inr (5, 0, 0)))], [.inl (if x = 1 then 1 else 0)], (tk_so I 4 0 X, tk_so J 4 0 N, R)) _
  refine dn_if rfl rfl rfl (fun (c : (if x = 1 then 1 else 0) = 0) => ?_) (fun (c : ¬ (if x = 1 then 1 else 0) = 0) => ?_)
  · show tkDn tm_112 (18, [some (.inr (.inr (5, 0, 0)))], [], (tk_so I 4 0 X, tk_so J 4 0 N, R)) _
    refine dn_run 1 (show tkDn tm_112 (19, [some (.inr (.inr (5, 0, 0)))], [.inl 0], (tk_so I 4 0 X, tk_so J 4 0 N, R)) _ from ?_)
    refine dn_ret0 rfl rfl rfl rfl ?_
    have hQ := hQ x k e v hw
    rw [if_neg (ite10.mp c)] at hQ; exact hQ _ _ _ ⟨⟨b0, b1, b01⟩, by rw [tk_so_ne (by omega)]; exact cP, by rw [tk_so_ne (by omega)]; exact cT, by rw [tk_so_ne (by omega)]; exact cC, fun _ => by rw [tk_so_same, tk_so_same]; exact hK, by rw [tk_so_ne (by omega)]; exact cO, by rw [tk_so_ne (by omega), tk_so_same]; exact fun q => ⟨(cR q).1, (cR q).2.1, (cR q).2.2.1, h6⟩⟩ (tk_so_ne (by omega)) (tk_so_ne (by omega))
  · show tkDn tm_112 (14, [some (.inr (.inr (5, 0, 0)))], [], (tk_so I 4 0 X, tk_so J 4 0 N, R)) _
    refine dn_run 2 (show tkDn tm_112 (19, [some (.inr (.inr (5, 0, 0)))], [.inl 1], (tk_so I 4 0 X, tk_so J 4 0 N, R)) _ from ?_)
    refine dn_ret0 rfl rfl rfl rfl ?_
    have hQ := hQ x k e v hw
    rw [if_pos (Classical.byContradiction fun q => c (ite10.mpr q))] at hQ; exact hQ _ _ _ ⟨⟨b0, b1, b01⟩, by rw [tk_so_ne (by omega)]; exact cP, by rw [tk_so_ne (by omega)]; exact cT, by rw [tk_so_ne (by omega)]; exact cC, fun _ => by rw [tk_so_same, tk_so_same]; exact hK, by rw [tk_so_ne (by omega)]; exact cO, by rw [tk_so_ne (by omega), tk_so_same]; exact fun q => ⟨(cR q).1, (cR q).2.1, (cR q).2.2.1, h6⟩⟩ (tk_so_ne (by omega)) (tk_so_ne (by omega))
set_option maxRecDepth 8000 in
theorem sx_rounds {I : tkI} {J : tkJ} {R : Nat → Nat} {Q : tkQ} {S : tkS} {z : Nat} {B : Nat → Int32} {on : Int32} {T : Nat → Int32} {t : Int32} (w : WF S) (C : CInv S z B on T t I J R) (hQ : ∀ x k e v, WkP S x k e v → ∀ I' J' R', CInv S z B on T t I' J' R' → I' 6 0 = I 6 0 → J' 6 0 = J 6 0 → Q (some (.inl (nI k))) (I', J', R')) : tkDn tm_113 (0, [some (.inr (.inr (5, 0, 0)))], [], (I, J, R)) Q := by
  have hM16 := w.1
  have hL60 := w.2.1
  have hG6 := w.2.2.1
  have C2 := C
  obtain ⟨⟨b0, b1, b01⟩, cP, cT, cC, cW, cO, cR⟩ := C
  refine dn_run 4 (show tkDn tm_113 (8, [some (.inr (.inr (5, 0, 0)))], [.inr (.inr (1, R 0, 0)), .inr (.inr (4, 0, 0))], (I, J, R)) _ from ?_)
  refine dn_call rfl rfl rfl rfl rfl (sw_roundCount cP w cW (fun X N h6 hK => ?_))
  have hK2 := hK
  obtain ⟨x, k, e, v, hw, h7, h8, he, hv⟩ := hK2
  rw [h8]
  show tkDn tm_113 (11, [some (.inr (.inr (5, 0, 0)))], [.inl (nI k)], (tk_so I 4 0 X, tk_so J 4 0 N, R)) _
  refine dn_ret0 rfl rfl rfl rfl ?_
  exact hQ x k e v hw _ _ _ ⟨⟨b0, b1, b01⟩, by rw [tk_so_ne (by omega)]; exact cP, by rw [tk_so_ne (by omega)]; exact cT, by rw [tk_so_ne (by omega)]; exact cC, fun _ => by rw [tk_so_same, tk_so_same]; exact hK, by rw [tk_so_ne (by omega)]; exact cO, by rw [tk_so_ne (by omega), tk_so_same]; exact fun q => ⟨(cR q).1, (cR q).2.1, (cR q).2.2.1, h6⟩⟩ (tk_so_ne (by omega)) (tk_so_ne (by omega))
set_option maxRecDepth 8000 in
theorem sx_edge {I : tkI} {J : tkJ} {R : Nat → Nat} {Q : tkQ} {S : tkS} {z : Nat} {B : Nat → Int32} {on : Int32} {T : Nat → Int32} {t : Int32} (w : WF S) (C : CInv S z B on T t I J R) {u v : Int32} (hQ0 : ¬ (hasM S u ∧ hasM S v) → ∀ I' J' R', CInv S z B on T t I' J' R' → I' 6 0 = I 6 0 → J' 6 0 = J 6 0 → Q (some (.inr (.inl 0))) (I', J', R')) (hQ1 : hasM S u → hasM S v → ∀ x k e v2, WkP S x k e v2 → ∀ I' J' R', CInv S z B on T t I' J' R' → I' 6 0 = I 6 0 → J' 6 0 = J 6 0 → Q (some (.inr (.inl (if x = 1 then e u.toNatClampNeg v.toNatClampNeg else 0)))) (I', J', R')) : tkDn tm_114 (0, [some (.inr (.inr (5, 0, 0))), some (.inl u), some (.inl v)], [], (I, J, R)) Q := by
  have hM16 := w.1
  have hL60 := w.2.1
  have hG6 := w.2.2.1
  have C2 := C
  obtain ⟨⟨b0, b1, b01⟩, cP, cT, cC, cW, cO, cR⟩ := C
  refine dn_run 3 (show tkDn tm_114 (5, [some (.inr (.inr (5, 0, 0))), some (.inl u), some (.inl v)], [.inl u, .inr (.inr (1, R 0, 0))], (I, J, R)) _ from ?_)
  refine dn_call rfl rfl rfl rfl rfl (sn_hasMoment ?_)
  rw [cP.m]
  show tkDn tm_114 (8, [some (.inr (.inr (5, 0, 0))), some (.inl u), some (.inl v)], [.inl (if 0 ≤ u ∧ u < nI (sM S) then 1 else 0)], (I, J, R)) _
  refine dn_if rfl rfl rfl (fun (c1 : (if 0 ≤ u ∧ u < nI (sM S) then 1 else 0) = 0) => ?_) (fun (c1 : ¬ (if 0 ≤ u ∧ u < nI (sM S) then 1 else 0) = 0) => ?_)
  · show tkDn tm_114 (36, [some (.inr (.inr (5, 0, 0))), some (.inl u), some (.inl v)], [], (I, J, R)) _
    refine dn_run 1 (show tkDn tm_114 (37, [some (.inr (.inr (5, 0, 0))), some (.inl u), some (.inl v)], [.inr (.inl 0)], (I, J, R)) _ from ?_)
    refine dn_ret0 rfl rfl rfl rfl ?_
    exact hQ0 (fun q => ite10.mp c1 q.1) I J R C2 rfl rfl
  · show tkDn tm_114 (11, [some (.inr (.inr (5, 0, 0))), some (.inl u), some (.inl v)], [], (I, J, R)) _
    refine dn_run 3 (show tkDn tm_114 (16, [some (.inr (.inr (5, 0, 0))), some (.inl u), some (.inl v)], [.inl v, .inr (.inr (1, R 0, 0))], (I, J, R)) _ from ?_)
    refine dn_call rfl rfl rfl rfl rfl (sn_hasMoment ?_)
    rw [cP.m]
    show tkDn tm_114 (19, [some (.inr (.inr (5, 0, 0))), some (.inl u), some (.inl v)], [.inl (if 0 ≤ v ∧ v < nI (sM S) then 1 else 0)], (I, J, R)) _
    refine dn_if rfl rfl rfl (fun (c2 : (if 0 ≤ v ∧ v < nI (sM S) then 1 else 0) = 0) => ?_) (fun (c2 : ¬ (if 0 ≤ v ∧ v < nI (sM S) then 1 else 0) = 0) => ?_)
    · show tkDn tm_114 (36, [some (.inr (.inr (5, 0, 0))), some (.inl u), some (.inl v)], [], (I, J, R)) _
      refine dn_run 1 (show tkDn tm_114 (37, [some (.inr (.inr (5, 0, 0))), some (.inl u), some (.inl v)], [.inr (.inl 0)], (I, J, R)) _ from ?_)
      refine dn_ret0 rfl rfl rfl rfl ?_
      exact hQ0 (fun q => ite10.mp c2 q.2) I J R C2 rfl rfl
    · show tkDn tm_114 (22, [some (.inr (.inr (5, 0, 0))), some (.inl u), some (.inl v)], [], (I, J, R)) _
      have h1 : hasM S u := Classical.byContradiction fun q => c1 (ite10.mpr q)
      have h2 : hasM S v := Classical.byContradiction fun q => c2 (ite10.mpr q)
      refine dn_run 4 (show tkDn tm_114 (30, [some (.inr (.inr (5, 0, 0))), some (.inl u), some (.inl v)], [.inr (.inr (1, R 0, 0)), .inr (.inr (4, 0, 0))], (I, J, R)) _ from ?_)
      refine dn_call rfl rfl rfl rfl rfl (sw_isLively cP w cW (fun X N h6 hK => ?_))
      have hK2 := hK
      obtain ⟨x, k, e, v2, hw, h7, h8, he, hv⟩ := hK2
      rw [h7]
      show tkDn tm_114 (33, [some (.inr (.inr (5, 0, 0))), some (.inl u), some (.inl v)], [.inl (if x = 1 then 1 else 0)], (tk_so I 4 0 X, tk_so J 4 0 N, R)) _
      have hR := hQ1 h1 h2 x k e v2 hw
      refine dn_if rfl rfl rfl (fun (c3 : ¬ (if x = 1 then 1 else 0) = 0) => ?_) (fun (c3 : (if x = 1 then 1 else 0) = 0) => ?_)
      · show tkDn tm_114 (38, [some (.inr (.inr (5, 0, 0))), some (.inl u), some (.inl v)], [], (tk_so I 4 0 X, tk_so J 4 0 N, R)) _
        rw [if_pos (Classical.byContradiction fun q => c3 (ite10.mpr q))] at hR
        obtain ⟨i, hi, ei, ci⟩ := hasM_nat w.1 h1
        obtain ⟨j, hj2, ej⟩ := nI_of (Int32.not_lt.mpr h2.1)
        have hj : j < sM S := by have := h2.2; rw [ej] at this; exact (nI_ltI hj2 (by omega)).mp this
        rw [ci, ej, nI_clamp hj2] at hR
        subst ei; subst ej
        show tkDn tm_114 (38, [some (.inr (.inr (5, 0, 0))), some (.inl (nI i)), some (.inl (nI j))], [], (tk_so I 4 0 X, tk_so J 4 0 N, R)) _
        refine dn_run 4 (show tkDn tm_114 (44, [some (.inr (.inr (5, 0, 0))), some (.inl (nI i)), some (.inl (nI j))], [.inl (nI j), .inl (nI i), .inr (.inr (4, 0, 0))], (tk_so I 4 0 X, tk_so J 4 0 N, R)) _ from ?_)
        refine dn_call rfl rfl rfl rfl rfl (sw_edgeOf (d := e) (by rw [tk_so_same]; exact he) (by omega) (by omega) ?_)
        show tkDn tm_114 (47, [some (.inr (.inr (5, 0, 0))), some (.inl (nI i)), some (.inl (nI j))], [.inr (.inl (e i j))], (tk_so I 4 0 X, tk_so J 4 0 N, R)) _
        refine dn_ret0 rfl rfl rfl rfl ?_
        exact hR _ _ _ ⟨⟨b0, b1, b01⟩, by rw [tk_so_ne (by omega)]; exact cP, by rw [tk_so_ne (by omega)]; exact cT, by rw [tk_so_ne (by omega)]; exact cC, fun _ => by rw [tk_so_same, tk_so_same]; exact hK, by rw [tk_so_ne (by omega)]; exact cO, by rw [tk_so_ne (by omega), tk_so_same]; exact fun q => ⟨(cR q).1, (cR q).2.1, (cR q).2.2.1, h6⟩⟩ (tk_so_ne (by omega)) (tk_so_ne (by omega))
      · show tkDn tm_114 (36, [some (.inr (.inr (5, 0, 0))), some (.inl u), some (.inl v)], [], (tk_so I 4 0 X, tk_so J 4 0 N, R)) _
        refine dn_run 1 (show tkDn tm_114 (37, [some (.inr (.inr (5, 0, 0))), some (.inl u), some (.inl v)], [.inr (.inl 0)], (tk_so I 4 0 X, tk_so J 4 0 N, R)) _ from ?_)
        refine dn_ret0 rfl rfl rfl rfl ?_
        rw [if_neg (ite10.mp c3)] at hR; exact hR _ _ _ ⟨⟨b0, b1, b01⟩, by rw [tk_so_ne (by omega)]; exact cP, by rw [tk_so_ne (by omega)]; exact cT, by rw [tk_so_ne (by omega)]; exact cC, fun _ => by rw [tk_so_same, tk_so_same]; exact hK, by rw [tk_so_ne (by omega)]; exact cO, by rw [tk_so_ne (by omega), tk_so_same]; exact fun q => ⟨(cR q).1, (cR q).2.1, (cR q).2.2.1, h6⟩⟩ (tk_so_ne (by omega)) (tk_so_ne (by omega))
set_option maxRecDepth 8000 in
theorem sx_wait {I : tkI} {J : tkJ} {R : Nat → Nat} {Q : tkQ} {S : tkS} {z : Nat} {B : Nat → Int32} {on : Int32} {T : Nat → Int32} {t : Int32} (w : WF S) (C : CInv S z B on T t I J R) {u v : Int32} (hQ0 : ¬ (hasM S u ∧ (0 ≤ v ∧ v < nI (sG S))) → ∀ I' J' R', CInv S z B on T t I' J' R' → I' 6 0 = I 6 0 → J' 6 0 = J 6 0 → Q (some (.inr (.inl 0))) (I', J', R')) (hQ1 : hasM S u → (0 ≤ v ∧ v < nI (sG S)) → ∀ x k e v2, WkP S x k e v2 → ∀ I' J' R', CInv S z B on T t I' J' R' → I' 6 0 = I 6 0 → J' 6 0 = J 6 0 → Q (some (.inr (.inl (if x = 1 then v2 u.toNatClampNeg v.toNatClampNeg else 0)))) (I', J', R')) : tkDn tm_115 (0, [some (.inr (.inr (5, 0, 0))), some (.inl u), some (.inl v)], [], (I, J, R)) Q := by
  have hM16 := w.1
  have hL60 := w.2.1
  have hG6 := w.2.2.1
  have C2 := C
  obtain ⟨⟨b0, b1, b01⟩, cP, cT, cC, cW, cO, cR⟩ := C
  refine dn_run 3 (show tkDn tm_115 (5, [some (.inr (.inr (5, 0, 0))), some (.inl u), some (.inl v)], [.inl u, .inr (.inr (1, R 0, 0))], (I, J, R)) _ from ?_)
  refine dn_call rfl rfl rfl rfl rfl (sn_hasMoment ?_)
  rw [cP.m]
  show tkDn tm_115 (8, [some (.inr (.inr (5, 0, 0))), some (.inl u), some (.inl v)], [.inl (if 0 ≤ u ∧ u < nI (sM S) then 1 else 0)], (I, J, R)) _
  refine dn_if rfl rfl rfl (fun (c1 : (if 0 ≤ u ∧ u < nI (sM S) then 1 else 0) = 0) => ?_) (fun (c1 : ¬ (if 0 ≤ u ∧ u < nI (sM S) then 1 else 0) = 0) => ?_)
  · show tkDn tm_115 (36, [some (.inr (.inr (5, 0, 0))), some (.inl u), some (.inl v)], [], (I, J, R)) _
    refine dn_run 1 (show tkDn tm_115 (37, [some (.inr (.inr (5, 0, 0))), some (.inl u), some (.inl v)], [.inr (.inl 0)], (I, J, R)) _ from ?_)
    refine dn_ret0 rfl rfl rfl rfl ?_
    exact hQ0 (fun q => ite10.mp c1 q.1) I J R C2 rfl rfl
  · show tkDn tm_115 (11, [some (.inr (.inr (5, 0, 0))), some (.inl u), some (.inl v)], [], (I, J, R)) _
    refine dn_run 3 (show tkDn tm_115 (16, [some (.inr (.inr (5, 0, 0))), some (.inl u), some (.inl v)], [.inl v, .inr (.inr (1, R 0, 0))], (I, J, R)) _ from ?_)
    refine dn_call rfl rfl rfl rfl rfl (sn_hasGift ?_)
    rw [cP.g]
    show tkDn tm_115 (19, [some (.inr (.inr (5, 0, 0))), some (.inl u), some (.inl v)], [.inl (if 0 ≤ v ∧ v < nI (sG S) then 1 else 0)], (I, J, R)) _
    refine dn_if rfl rfl rfl (fun (c2 : (if 0 ≤ v ∧ v < nI (sG S) then 1 else 0) = 0) => ?_) (fun (c2 : ¬ (if 0 ≤ v ∧ v < nI (sG S) then 1 else 0) = 0) => ?_)
    · show tkDn tm_115 (36, [some (.inr (.inr (5, 0, 0))), some (.inl u), some (.inl v)], [], (I, J, R)) _
      refine dn_run 1 (show tkDn tm_115 (37, [some (.inr (.inr (5, 0, 0))), some (.inl u), some (.inl v)], [.inr (.inl 0)], (I, J, R)) _ from ?_)
      refine dn_ret0 rfl rfl rfl rfl ?_
      exact hQ0 (fun q => ite10.mp c2 q.2) I J R C2 rfl rfl
    · show tkDn tm_115 (22, [some (.inr (.inr (5, 0, 0))), some (.inl u), some (.inl v)], [], (I, J, R)) _
      have h1 : hasM S u := Classical.byContradiction fun q => c1 (ite10.mpr q)
      have h2 : (0 ≤ v ∧ v < nI (sG S)) := Classical.byContradiction fun q => c2 (ite10.mpr q)
      refine dn_run 4 (show tkDn tm_115 (30, [some (.inr (.inr (5, 0, 0))), some (.inl u), some (.inl v)], [.inr (.inr (1, R 0, 0)), .inr (.inr (4, 0, 0))], (I, J, R)) _ from ?_)
      refine dn_call rfl rfl rfl rfl rfl (sw_isLively cP w cW (fun X N h6 hK => ?_))
      have hK2 := hK
      obtain ⟨x, k, e, v2, hw, h7, h8, he, hv⟩ := hK2
      rw [h7]
      show tkDn tm_115 (33, [some (.inr (.inr (5, 0, 0))), some (.inl u), some (.inl v)], [.inl (if x = 1 then 1 else 0)], (tk_so I 4 0 X, tk_so J 4 0 N, R)) _
      have hR := hQ1 h1 h2 x k e v2 hw
      refine dn_if rfl rfl rfl (fun (c3 : ¬ (if x = 1 then 1 else 0) = 0) => ?_) (fun (c3 : (if x = 1 then 1 else 0) = 0) => ?_)
      · show tkDn tm_115 (38, [some (.inr (.inr (5, 0, 0))), some (.inl u), some (.inl v)], [], (tk_so I 4 0 X, tk_so J 4 0 N, R)) _
        rw [if_pos (Classical.byContradiction fun q => c3 (ite10.mpr q))] at hR
        obtain ⟨i, hi, ei, ci⟩ := hasM_nat w.1 h1
        obtain ⟨j, hj2, ej⟩ := nI_of (Int32.not_lt.mpr h2.1)
        have hj : j < sG S := by have := h2.2; rw [ej] at this; exact (nI_ltI hj2 (by omega)).mp this
        rw [ci, ej, nI_clamp hj2] at hR
        subst ei; subst ej
        show tkDn tm_115 (38, [some (.inr (.inr (5, 0, 0))), some (.inl (nI i)), some (.inl (nI j))], [], (tk_so I 4 0 X, tk_so J 4 0 N, R)) _
        refine dn_run 4 (show tkDn tm_115 (44, [some (.inr (.inr (5, 0, 0))), some (.inl (nI i)), some (.inl (nI j))], [.inl (nI j), .inl (nI i), .inr (.inr (4, 0, 0))], (tk_so I 4 0 X, tk_so J 4 0 N, R)) _ from ?_)
        refine dn_call rfl rfl rfl rfl rfl (sw_waitOf (v := v2) (by rw [tk_so_same]; exact hv) (by omega) (by omega) ?_)
        show tkDn tm_115 (47, [some (.inr (.inr (5, 0, 0))), some (.inl (nI i)), some (.inl (nI j))], [.inr (.inl (v2 i j))], (tk_so I 4 0 X, tk_so J 4 0 N, R)) _
        refine dn_ret0 rfl rfl rfl rfl ?_
        exact hR _ _ _ ⟨⟨b0, b1, b01⟩, by rw [tk_so_ne (by omega)]; exact cP, by rw [tk_so_ne (by omega)]; exact cT, by rw [tk_so_ne (by omega)]; exact cC, fun _ => by rw [tk_so_same, tk_so_same]; exact hK, by rw [tk_so_ne (by omega)]; exact cO, by rw [tk_so_ne (by omega), tk_so_same]; exact fun q => ⟨(cR q).1, (cR q).2.1, (cR q).2.2.1, h6⟩⟩ (tk_so_ne (by omega)) (tk_so_ne (by omega))
      · show tkDn tm_115 (36, [some (.inr (.inr (5, 0, 0))), some (.inl u), some (.inl v)], [], (tk_so I 4 0 X, tk_so J 4 0 N, R)) _
        refine dn_run 1 (show tkDn tm_115 (37, [some (.inr (.inr (5, 0, 0))), some (.inl u), some (.inl v)], [.inr (.inl 0)], (tk_so I 4 0 X, tk_so J 4 0 N, R)) _ from ?_)
        refine dn_ret0 rfl rfl rfl rfl ?_
        rw [if_neg (ite10.mp c3)] at hR; exact hR _ _ _ ⟨⟨b0, b1, b01⟩, by rw [tk_so_ne (by omega)]; exact cP, by rw [tk_so_ne (by omega)]; exact cT, by rw [tk_so_ne (by omega)]; exact cC, fun _ => by rw [tk_so_same, tk_so_same]; exact hK, by rw [tk_so_ne (by omega)]; exact cO, by rw [tk_so_ne (by omega), tk_so_same]; exact fun q => ⟨(cR q).1, (cR q).2.1, (cR q).2.2.1, h6⟩⟩ (tk_so_ne (by omega)) (tk_so_ne (by omega))
set_option maxRecDepth 8000 in
theorem ncF_all {T : Nat → Int32} : ∀ n, (∀ j, j < n → T j = -9) → ncF T n = n := by
  intro n
  induction n with
  | zero => intro _; rfl
  | succ n ih =>
    intro h
    unfold ncF
    rw [if_pos (h n (by omega)), ih (fun j hj => h j (by omega))]
set_option maxRecDepth 8000 in
theorem sx_start {I : tkI} {J : tkJ} {R : Nat → Nat} {Q : tkQ} {S : tkS} {z : Nat} {B : Nat → Int32} {on : Int32} {T : Nat → Int32} {t : Int32} (w : WF S) (C : CInv S z B on T t I J R) (hQ0 : ∀ x k e v, WkP S x k e v → ¬ x = 1 → ∀ I' J' R', CInv S z B on T t I' J' R' → I' 6 0 = I 6 0 → J' 6 0 = J 6 0 → Q (some (.inl (-13))) (I', J', R')) (hQ1 : ∀ k e v, WkP S 1 k e v → ∀ I' J' R', CInv S z B 1 (fun _ => -9) 0 I' J' R' → I' 6 0 = I 6 0 → J' 6 0 = J 6 0 → Q (some (.inl 1)) (I', J', R')) : tkDn tm_116 (0, [some (.inr (.inr (5, 0, 0)))], [], (I, J, R)) Q := by
  have hM16 := w.1
  have hL60 := w.2.1
  have hG6 := w.2.2.1
  have C2 := C
  obtain ⟨⟨b0, b1, b01⟩, cP, cT, cC, cW, cO, cR⟩ := C
  refine dn_run 4 (show tkDn tm_116 (8, [some (.inr (.inr (5, 0, 0)))], [.inr (.inr (1, R 0, 0)), .inr (.inr (4, 0, 0))], (I, J, R)) _ from ?_)
  refine dn_call rfl rfl rfl rfl rfl (sw_isLively cP w cW (fun X N h6 hK => ?_))
  have hK2 := hK
  obtain ⟨x, k, e, v, hw, h7, h8, he, hv⟩ := hK2
  rw [h7]
  show tkDn tm_116 (11, [some (.inr (.inr (5, 0, 0)))], [.inl (if x = 1 then 1 else 0)], (tk_so I 4 0 X, tk_so J 4 0 N, R)) _
  refine dn_if rfl rfl rfl (fun (c : ¬ (if x = 1 then 1 else 0) = 0) => ?_) (fun (c : (if x = 1 then 1 else 0) = 0) => ?_)
  · show tkDn tm_116 (17, [some (.inr (.inr (5, 0, 0)))], [], (tk_so I 4 0 X, tk_so J 4 0 N, R)) _
    have x1 : x = 1 := Classical.byContradiction fun q => c (ite10.mpr q)
    subst x1
    refine dn_run 2 (show tkDn tm_116 (21, [some (.inr (.inr (5, 0, 0)))], [.inr (.inr (2, 0, 0))], (tk_so I 4 0 X, tk_so J 4 0 N, R)) _ from ?_)
    refine dn_call rfl rfl rfl rfl rfl (sr_begin (fun Y k1 k2 k3 k4 => ?_))
    show tkDn tm_116 (24, [some (.inr (.inr (5, 0, 0)))], [], (tk_so (tk_so I 4 0 X) 2 0 Y, tk_so J 4 0 N, R)) _
    refine dn_run 1 (show tkDn tm_116 (25, [some (.inr (.inr (5, 0, 0)))], [.inl 1], (tk_so (tk_so I 4 0 X) 2 0 Y, tk_so J 4 0 N, R)) _ from ?_)
    refine dn_ret0 rfl rfl rfl rfl ?_
    exact hQ1 k e v hw _ _ _ ⟨⟨b0, b1, b01⟩, by rw [tk_so_ne (by omega), tk_so_ne (by omega)]; exact cP, by rw [tk_so_ne (by omega), tk_so_ne (by omega)]; exact cT, by rw [tk_so_ne (by omega), tk_so_ne (by omega)]; exact cC, fun _ => by rw [tk_so_ne (by omega), tk_so_same, tk_so_same]; exact hK, by rw [tk_so_same]; exact k2, fun _ => ⟨fun j hj => by rw [tk_so_same]; exact k1 j hj, by rw [tk_so_same]; exact k3, by rw [tk_so_same, ncF_all _ (fun _ _ => rfl), Nat.sub_self]; exact k4, by rw [tk_so_ne (by omega), tk_so_same]; exact h6⟩⟩ (by rw [tk_so_ne (by omega), tk_so_ne (by omega)]) (tk_so_ne (by omega))
  · show tkDn tm_116 (14, [some (.inr (.inr (5, 0, 0)))], [], (tk_so I 4 0 X, tk_so J 4 0 N, R)) _
    refine dn_run 1 (show tkDn tm_116 (16, [some (.inr (.inr (5, 0, 0)))], [.inl (-13)], (tk_so I 4 0 X, tk_so J 4 0 N, R)) _ from ?_)
    refine dn_ret0 rfl rfl rfl rfl ?_
    exact hQ0 x k e v hw (ite10.mp c) _ _ _ ⟨⟨b0, b1, b01⟩, by rw [tk_so_ne (by omega)]; exact cP, by rw [tk_so_ne (by omega)]; exact cT, by rw [tk_so_ne (by omega)]; exact cC, fun _ => by rw [tk_so_same, tk_so_same]; exact hK, by rw [tk_so_ne (by omega)]; exact cO, by rw [tk_so_ne (by omega), tk_so_same]; exact fun q => ⟨(cR q).1, (cR q).2.1, (cR q).2.2.1, h6⟩⟩ (tk_so_ne (by omega)) (tk_so_ne (by omega))
set_option maxRecDepth 8000 in
theorem sx_came {I : tkI} {J : tkJ} {R : Nat → Nat} {Q : tkQ} {S : tkS} {z : Nat} {B : Nat → Int32} {on : Int32} {T : Nat → Int32} {t : Int32} (w : WF S) (C : CInv S z B on T t I J R) (hb : on = 0 ∨ on = 1) {u : Int32} (hQ0 : ¬ hasM S u → ∀ I' J' R', CInv S z B on T t I' J' R' → I' 6 0 = I 6 0 → J' 6 0 = J 6 0 → Q (some (.inl (-11))) (I', J', R')) (hQ1 : (hasM S u ∧ ¬ on = 1) → ∀ I' J' R', CInv S z B on T t I' J' R' → I' 6 0 = I 6 0 → J' 6 0 = J 6 0 → Q (some (.inl (-13))) (I', J', R')) (hQ2 : hasM S u → on = 1 → ∀ I' J' R', CInv S z B on T t I' J' R' → I' 6 0 = I 6 0 → J' 6 0 = J 6 0 → Q (some (.inl (T u.toNatClampNeg))) (I', J', R')) : tkDn tm_120 (0, [some (.inr (.inr (5, 0, 0))), some (.inl u)], [], (I, J, R)) Q := by
  have hM16 := w.1
  have hL60 := w.2.1
  have hG6 := w.2.2.1
  have C2 := C
  obtain ⟨⟨b0, b1, b01⟩, cP, cT, cC, cW, cO, cR⟩ := C
  refine dn_run 3 (show tkDn tm_120 (5, [some (.inr (.inr (5, 0, 0))), some (.inl u)], [.inl u, .inr (.inr (1, R 0, 0))], (I, J, R)) _ from ?_)
  refine dn_call rfl rfl rfl rfl rfl (sn_hasMoment ?_)
  rw [cP.m]
  show tkDn tm_120 (8, [some (.inr (.inr (5, 0, 0))), some (.inl u)], [.inl (if 0 ≤ u ∧ u < nI (sM S) then 1 else 0)], (I, J, R)) _
  refine dn_if rfl rfl rfl (fun (c0 : ¬ (if 0 ≤ u ∧ u < nI (sM S) then 1 else 0) = 0) => ?_) (fun (c0 : (if 0 ≤ u ∧ u < nI (sM S) then 1 else 0) = 0) => ?_)
  · show tkDn tm_120 (14, [some (.inr (.inr (5, 0, 0))), some (.inl u)], [], (I, J, R)) _
    have h1 : hasM S u := Classical.byContradiction fun q => c0 (ite10.mpr q)
    obtain ⟨i, hi, ei, ci⟩ := hasM_nat w.1 h1
    refine dn_run 2 (show tkDn tm_120 (18, [some (.inr (.inr (5, 0, 0))), some (.inl u)], [.inr (.inr (2, 0, 0))], (I, J, R)) _ from ?_)
    refine dn_call rfl rfl rfl rfl rfl ?_
    show tkDn tm_42 (0, [some (.inr (.inr (2, 0, 0)))], [], (I, J, R)) _
    refine dn_run 2 (show tkDn tm_42 (4, [some (.inr (.inr (2, 0, 0)))], [.inl (I 2 0 0 1)], (I, J, R)) _ from ?_)
    rw [cO]
    show tkDn tm_42 (4, [some (.inr (.inr (2, 0, 0)))], [.inl on], (I, J, R)) _
    refine dn_retb rfl rfl rfl rfl hb ?_
    show tkDn tm_120 (21, [some (.inr (.inr (5, 0, 0))), some (.inl u)], [.inl on], (I, J, R)) _
    refine dn_if rfl rfl rfl (fun (d1 : on = 0) => ?_) (fun (d1 : ¬ on = 0) => ?_)
    · show tkDn tm_120 (35, [some (.inr (.inr (5, 0, 0))), some (.inl u)], [], (I, J, R)) _
      have on0 : ¬ on = 1 := fun q => absurd (d1.symm.trans q) (by decide)
      refine dn_run 1 (show tkDn tm_120 (37, [some (.inr (.inr (5, 0, 0))), some (.inl u)], [.inl (-13)], (I, J, R)) _ from ?_)
      refine dn_ret0 rfl rfl rfl rfl ?_
      exact hQ1 ⟨h1, on0⟩ I J R C2 rfl rfl
    · show tkDn tm_120 (24, [some (.inr (.inr (5, 0, 0))), some (.inl u)], [], (I, J, R)) _
      have on1 : on = 1 := hb.resolve_left d1
      obtain ⟨rT, rt, rc, r6⟩ := cR on1
      have hR := hQ2 h1 on1
      rw [ci] at hR
      subst ei
      show tkDn tm_120 (24, [some (.inr (.inr (5, 0, 0))), some (.inl (nI i))], [], (I, J, R)) _
      refine dn_run 3 (show tkDn tm_120 (29, [some (.inr (.inr (5, 0, 0))), some (.inl (nI i))], [.inl (nI i), .inr (.inr (2, 0, 0))], (I, J, R)) _ from ?_)
      refine dn_call rfl rfl rfl rfl rfl ?_
      show tkDn tm_45 (0, [some (.inr (.inr (2, 0, 0))), some (.inl (nI i))], [], (I, J, R)) _
      refine dn_run 4 (show (vp_in (nI i) 16) ∧ tkDn tm_45 (6, [some (.inr (.inr (2, 0, 0))), some (.inl (nI i))], [.inl (I 2 0 1 ((nI i).toNatClampNeg))], (I, J, R)) _ from ⟨vp_in_nI (by omega) (by omega), ?_⟩)
      rw [nI_clamp (show i < 2 ^ 31 by omega), rT i (by omega)]
      show tkDn tm_45 (6, [some (.inr (.inr (2, 0, 0))), some (.inl (nI i))], [.inl (T i)], (I, J, R)) _
      refine dn_ret0 rfl rfl rfl rfl ?_
      show tkDn tm_120 (32, [some (.inr (.inr (5, 0, 0))), some (.inl (nI i))], [.inl (T i)], (I, J, R)) _
      refine dn_run 1 (show tkDn tm_120 (37, [some (.inr (.inr (5, 0, 0))), some (.inl (nI i))], [.inl (T i)], (I, J, R)) _ from ?_)
      refine dn_ret0 rfl rfl rfl rfl ?_
      exact hR I J R C2 rfl rfl
  · show tkDn tm_120 (11, [some (.inr (.inr (5, 0, 0))), some (.inl u)], [], (I, J, R)) _
    refine dn_run 1 (show tkDn tm_120 (13, [some (.inr (.inr (5, 0, 0))), some (.inl u)], [.inl (-11)], (I, J, R)) _ from ?_)
    refine dn_ret0 rfl rfl rfl rfl ?_
    exact hQ0 (ite10.mp c0) I J R C2 rfl rfl
set_option maxRecDepth 8000 in
theorem sx_now {I : tkI} {J : tkJ} {R : Nat → Nat} {Q : tkQ} {S : tkS} {z : Nat} {B : Nat → Int32} {on : Int32} {T : Nat → Int32} {t : Int32} (w : WF S) (C : CInv S z B on T t I J R) (hb : on = 0 ∨ on = 1) (hQ1 : ¬ on = 1 → ∀ I' J' R', CInv S z B on T t I' J' R' → I' 6 0 = I 6 0 → J' 6 0 = J 6 0 → Q (some (.inl (-13))) (I', J', R')) (hQ2 : on = 1 → ∀ I' J' R', CInv S z B on T t I' J' R' → I' 6 0 = I 6 0 → J' 6 0 = J 6 0 → Q (some (.inl t)) (I', J', R')) : tkDn tm_122 (0, [some (.inr (.inr (5, 0, 0)))], [], (I, J, R)) Q := by
  have hM16 := w.1
  have hL60 := w.2.1
  have hG6 := w.2.2.1
  have C2 := C
  obtain ⟨⟨b0, b1, b01⟩, cP, cT, cC, cW, cO, cR⟩ := C
  refine dn_run 2 (show tkDn tm_122 (4, [some (.inr (.inr (5, 0, 0)))], [.inr (.inr (2, 0, 0))], (I, J, R)) _ from ?_)
  refine dn_call rfl rfl rfl rfl rfl ?_
  show tkDn tm_42 (0, [some (.inr (.inr (2, 0, 0)))], [], (I, J, R)) _
  refine dn_run 2 (show tkDn tm_42 (4, [some (.inr (.inr (2, 0, 0)))], [.inl (I 2 0 0 1)], (I, J, R)) _ from ?_)
  rw [cO]
  show tkDn tm_42 (4, [some (.inr (.inr (2, 0, 0)))], [.inl on], (I, J, R)) _
  refine dn_retb rfl rfl rfl rfl hb ?_
  show tkDn tm_122 (7, [some (.inr (.inr (5, 0, 0)))], [.inl on], (I, J, R)) _
  refine dn_if rfl rfl rfl (fun (d1 : on = 0) => ?_) (fun (d1 : ¬ on = 0) => ?_)
  · show tkDn tm_122 (20, [some (.inr (.inr (5, 0, 0)))], [], (I, J, R)) _
    have on0 : ¬ on = 1 := fun q => absurd (d1.symm.trans q) (by decide)
    refine dn_run 1 (show tkDn tm_122 (22, [some (.inr (.inr (5, 0, 0)))], [.inl (-13)], (I, J, R)) _ from ?_)
    refine dn_ret0 rfl rfl rfl rfl ?_
    exact hQ1 on0 I J R C2 rfl rfl
  · show tkDn tm_122 (10, [some (.inr (.inr (5, 0, 0)))], [], (I, J, R)) _
    have on1 : on = 1 := hb.resolve_left d1
    obtain ⟨rT, rt, rc, r6⟩ := cR on1
    refine dn_run 2 (show tkDn tm_122 (14, [some (.inr (.inr (5, 0, 0)))], [.inr (.inr (2, 0, 0))], (I, J, R)) _ from ?_)
    refine dn_call rfl rfl rfl rfl rfl ?_
    show tkDn tm_43 (0, [some (.inr (.inr (2, 0, 0)))], [], (I, J, R)) _
    refine dn_run 2 (show tkDn tm_43 (4, [some (.inr (.inr (2, 0, 0)))], [.inl (I 2 0 0 2)], (I, J, R)) _ from ?_)
    rw [rt]
    show tkDn tm_43 (4, [some (.inr (.inr (2, 0, 0)))], [.inl t], (I, J, R)) _
    refine dn_ret0 rfl rfl rfl rfl ?_
    show tkDn tm_122 (17, [some (.inr (.inr (5, 0, 0)))], [.inl t], (I, J, R)) _
    refine dn_run 1 (show tkDn tm_122 (22, [some (.inr (.inr (5, 0, 0)))], [.inl t], (I, J, R)) _ from ?_)
    refine dn_ret0 rfl rfl rfl rfl ?_
    exact hQ2 on1 I J R C2 rfl rfl
set_option maxRecDepth 8000 in
theorem sx_happen {I : tkI} {J : tkJ} {R : Nat → Nat} {Q : tkQ} {S : tkS} {z : Nat} {B : Nat → Int32} {on : Int32} {T : Nat → Int32} {t : Int32} (w : WF S) (C : CInv S z B on T t I J R) (hb : on = 0 ∨ on = 1) (ht9 : on = 1 → ¬ t = -9) {u : Int32} (hQ0 : ¬ hasM S u → ∀ I' J' R', CInv S z B on T t I' J' R' → I' 6 0 = I 6 0 → J' 6 0 = J 6 0 → Q (some (.inl (-11))) (I', J', R')) (hQ1 : (hasM S u ∧ ¬ (on = 1 ∧ cgvF S T t u.toNatClampNeg)) → ∀ I' J' R', CInv S z B on T t I' J' R' → I' 6 0 = I 6 0 → J' 6 0 = J 6 0 → Q (some (.inl (-13))) (I', J', R')) (hQ2 : hasM S u → on = 1 → cgvF S T t u.toNatClampNeg → ∀ I' J' R', CInv S z B 1 (tk_u1 T u.toNatClampNeg t) t I' J' R' → I' 6 0 = I 6 0 → J' 6 0 = J 6 0 → Q (some (.inl 1)) (I', J', R')) : tkDn tm_117 (0, [some (.inr (.inr (5, 0, 0))), some (.inl u)], [], (I, J, R)) Q := by
  have hM16 := w.1
  have hL60 := w.2.1
  have hG6 := w.2.2.1
  have C2 := C
  obtain ⟨⟨b0, b1, b01⟩, cP, cT, cC, cW, cO, cR⟩ := C
  refine dn_run 3 (show tkDn tm_117 (5, [some (.inr (.inr (5, 0, 0))), some (.inl u)], [.inl u, .inr (.inr (1, R 0, 0))], (I, J, R)) _ from ?_)
  refine dn_call rfl rfl rfl rfl rfl (sn_hasMoment ?_)
  rw [cP.m]
  show tkDn tm_117 (8, [some (.inr (.inr (5, 0, 0))), some (.inl u)], [.inl (if 0 ≤ u ∧ u < nI (sM S) then 1 else 0)], (I, J, R)) _
  refine dn_if rfl rfl rfl (fun (c0 : ¬ (if 0 ≤ u ∧ u < nI (sM S) then 1 else 0) = 0) => ?_) (fun (c0 : (if 0 ≤ u ∧ u < nI (sM S) then 1 else 0) = 0) => ?_)
  · show tkDn tm_117 (14, [some (.inr (.inr (5, 0, 0))), some (.inl u)], [], (I, J, R)) _
    have h1 : hasM S u := Classical.byContradiction fun q => c0 (ite10.mpr q)
    obtain ⟨i, hi, ei, ci⟩ := hasM_nat w.1 h1
    refine dn_run 2 (show tkDn tm_117 (18, [some (.inr (.inr (5, 0, 0))), some (.inl u)], [.inr (.inr (2, 0, 0))], (I, J, R)) _ from ?_)
    refine dn_call rfl rfl rfl rfl rfl ?_
    show tkDn tm_42 (0, [some (.inr (.inr (2, 0, 0)))], [], (I, J, R)) _
    refine dn_run 2 (show tkDn tm_42 (4, [some (.inr (.inr (2, 0, 0)))], [.inl (I 2 0 0 1)], (I, J, R)) _ from ?_)
    rw [cO]
    show tkDn tm_42 (4, [some (.inr (.inr (2, 0, 0)))], [.inl on], (I, J, R)) _
    refine dn_retb rfl rfl rfl rfl hb ?_
    show tkDn tm_117 (21, [some (.inr (.inr (5, 0, 0))), some (.inl u)], [.inl on], (I, J, R)) _
    refine dn_if rfl rfl rfl (fun (d1 : on = 0) => ?_) (fun (d1 : ¬ on = 0) => ?_)
    · show tkDn tm_117 (39, [some (.inr (.inr (5, 0, 0))), some (.inl u)], [], (I, J, R)) _
      have on0 : ¬ on = 1 := fun q => absurd (d1.symm.trans q) (by decide)
      refine dn_run 1 (show tkDn tm_117 (41, [some (.inr (.inr (5, 0, 0))), some (.inl u)], [.inl (-13)], (I, J, R)) _ from ?_)
      refine dn_ret0 rfl rfl rfl rfl ?_
      exact hQ1 ⟨h1, fun q => on0 q.1⟩ I J R C2 rfl rfl
    · show tkDn tm_117 (24, [some (.inr (.inr (5, 0, 0))), some (.inl u)], [], (I, J, R)) _
      have on1 : on = 1 := hb.resolve_left d1
      obtain ⟨rT, rt, rc, r6⟩ := cR on1
      have hR := hQ2 h1 on1
      have hN := hQ1
      rw [ci] at hR hN
      subst ei
      show tkDn tm_117 (24, [some (.inr (.inr (5, 0, 0))), some (.inl (nI i))], [], (I, J, R)) _
      refine dn_run 5 (show tkDn tm_117 (33, [some (.inr (.inr (5, 0, 0))), some (.inl (nI i))], [.inl (nI i), .inr (.inr (1, R 0, 0)), .inr (.inr (2, 0, 0))], (I, J, R)) _ from ?_)
      refine dn_call rfl rfl rfl rfl rfl (sr_canBeGiven rT cP w rt (by omega) ?_)
      show tkDn tm_117 (36, [some (.inr (.inr (5, 0, 0))), some (.inl (nI i))], [.inl (if cgvF S T t i then 1 else 0)], (I, J, R)) _
      refine dn_if rfl rfl rfl (fun (c1 : ¬ (if cgvF S T t i then 1 else 0) = 0) => ?_) (fun (c1 : (if cgvF S T t i then 1 else 0) = 0) => ?_)
      · show tkDn tm_117 (42, [some (.inr (.inr (5, 0, 0))), some (.inl (nI i))], [], (I, J, R)) _
        have cg : cgvF S T t i := Classical.byContradiction fun q => c1 (ite10.mpr q)
        refine dn_run 3 (show tkDn tm_117 (47, [some (.inr (.inr (5, 0, 0))), some (.inl (nI i))], [.inl (nI i), .inr (.inr (2, 0, 0))], (I, J, R)) _ from ?_)
        refine dn_call rfl rfl rfl rfl rfl (sr_letCome (by omega) ?_)
        rw [rt, rc]
        show tkDn tm_117 (50, [some (.inr (.inr (5, 0, 0))), some (.inl (nI i))], [], (tk_so I 2 0 (tk_u2 (tk_u2 (I 2 0) 1 i t) 0 3 (nI (sM S - ncF T (sM S)) + 1)), J, R)) _
        refine dn_run 1 (show tkDn tm_117 (51, [some (.inr (.inr (5, 0, 0))), some (.inl (nI i))], [.inl 1], (tk_so I 2 0 (tk_u2 (tk_u2 (I 2 0) 1 i t) 0 3 (nI (sM S - ncF T (sM S)) + 1)), J, R)) _ from ?_)
        have hn := ncF_u cg.2.1 (ht9 on1) (sM S) hi
        have hn2 := ncF_le (T := T) (sM S)
        refine dn_ret0 rfl rfl rfl rfl ?_
        refine hR cg _ _ _ ⟨⟨b0, b1, b01⟩, by rw [tk_so_ne (by omega)]; exact cP, by rw [tk_so_ne (by omega)]; exact cT, by rw [tk_so_ne (by omega)]; exact cC, by rw [tk_so_ne (by omega)]; exact cW, by rw [tk_so_same, tk_u2_0 (by decide), tk_u2_0 (by omega)]; exact cO.trans on1, fun _ => ⟨fun j hj => ?_, by rw [tk_so_same, tk_u2_0 (by decide), tk_u2_0 (by omega)]; exact rt, by rw [tk_so_same, tk_u2_1, nI_1, show sM S - ncF (tk_u1 T i t) (sM S) = sM S - ncF T (sM S) + 1 by omega], by rw [tk_so_ne (by omega)]; exact r6⟩⟩ (tk_so_ne (by omega)) rfl
        rw [tk_so_same, tk_u2_ne (by decide), tk_u2_at]
        by_cases q : j = i
        · rw [q, tk_u1_same, tk_u1_same]
        · rw [tk_u1_ne q, tk_u1_ne q]; exact rT j hj
      · show tkDn tm_117 (39, [some (.inr (.inr (5, 0, 0))), some (.inl (nI i))], [], (I, J, R)) _
        refine dn_run 1 (show tkDn tm_117 (41, [some (.inr (.inr (5, 0, 0))), some (.inl (nI i))], [.inl (-13)], (I, J, R)) _ from ?_)
        refine dn_ret0 rfl rfl rfl rfl ?_
        exact hN ⟨h1, fun q => ite10.mp c1 q.2⟩ I J R C2 rfl rfl
  · show tkDn tm_117 (11, [some (.inr (.inr (5, 0, 0))), some (.inl u)], [], (I, J, R)) _
    refine dn_run 1 (show tkDn tm_117 (13, [some (.inr (.inr (5, 0, 0))), some (.inl u)], [.inl (-11)], (I, J, R)) _ from ?_)
    refine dn_ret0 rfl rfl rfl rfl ?_
    exact hQ0 (ite10.mp c0) I J R C2 rfl rfl
set_option maxRecDepth 8000 in
theorem sx_may {I : tkI} {J : tkJ} {R : Nat → Nat} {Q : tkQ} {S : tkS} {z : Nat} {B : Nat → Int32} {on : Int32} {T : Nat → Int32} {t : Int32} (w : WF S) (C : CInv S z B on T t I J R) (hb : on = 0 ∨ on = 1) {e v : tkD} (he : on = 1 → RowP 16 (J 4 0 1) e) (hv : on = 1 → WRow (J 4 0 4) v) {u : Int32} (hQ0 : ¬ hasM S u → ∀ I' J' R', CInv S z B on T t I' J' R' → I' 6 0 = I 6 0 → J' 6 0 = J 6 0 → Q (some (.inl (-11))) (I', J', R')) (hQ1 : (hasM S u ∧ ¬ (on = 1 ∧ opn S T u.toNatClampNeg)) → ∀ I' J' R', CInv S z B on T t I' J' R' → I' 6 0 = I 6 0 → J' 6 0 = J 6 0 → Q (some (.inl (-13))) (I', J', R')) (hQ2 : hasM S u → (on = 1 ∧ opn S T u.toNatClampNeg) → ∀ I' J' R', CInv S z B on T t I' J' R' → I' 6 0 = I 6 0 → J' 6 0 = J 6 0 → Q (some (.inl (if ftF S e v T t u.toNatClampNeg = t.toInt64 then 1 else 0))) (I', J', R')) : tkDn tm_121 (0, [some (.inr (.inr (5, 0, 0))), some (.inl u)], [], (I, J, R)) Q := by
  have hM16 := w.1
  have hL60 := w.2.1
  have hG6 := w.2.2.1
  have C2 := C
  obtain ⟨⟨b0, b1, b01⟩, cP, cT, cC, cW, cO, cR⟩ := C
  refine dn_run 3 (show tkDn tm_121 (5, [some (.inr (.inr (5, 0, 0))), some (.inl u)], [.inl u, .inr (.inr (1, R 0, 0))], (I, J, R)) _ from ?_)
  refine dn_call rfl rfl rfl rfl rfl (sn_hasMoment ?_)
  rw [cP.m]
  show tkDn tm_121 (8, [some (.inr (.inr (5, 0, 0))), some (.inl u)], [.inl (if 0 ≤ u ∧ u < nI (sM S) then 1 else 0)], (I, J, R)) _
  refine dn_if rfl rfl rfl (fun (c0 : ¬ (if 0 ≤ u ∧ u < nI (sM S) then 1 else 0) = 0) => ?_) (fun (c0 : (if 0 ≤ u ∧ u < nI (sM S) then 1 else 0) = 0) => ?_)
  · show tkDn tm_121 (14, [some (.inr (.inr (5, 0, 0))), some (.inl u)], [], (I, J, R)) _
    have h1 : hasM S u := Classical.byContradiction fun q => c0 (ite10.mpr q)
    obtain ⟨i, hi, ei, ci⟩ := hasM_nat w.1 h1
    refine dn_run 2 (show tkDn tm_121 (18, [some (.inr (.inr (5, 0, 0))), some (.inl u)], [.inr (.inr (2, 0, 0))], (I, J, R)) _ from ?_)
    refine dn_call rfl rfl rfl rfl rfl ?_
    show tkDn tm_42 (0, [some (.inr (.inr (2, 0, 0)))], [], (I, J, R)) _
    refine dn_run 2 (show tkDn tm_42 (4, [some (.inr (.inr (2, 0, 0)))], [.inl (I 2 0 0 1)], (I, J, R)) _ from ?_)
    rw [cO]
    show tkDn tm_42 (4, [some (.inr (.inr (2, 0, 0)))], [.inl on], (I, J, R)) _
    refine dn_retb rfl rfl rfl rfl hb ?_
    show tkDn tm_121 (21, [some (.inr (.inr (5, 0, 0))), some (.inl u)], [.inl on], (I, J, R)) _
    refine dn_if rfl rfl rfl (fun (d1 : on = 0) => ?_) (fun (d1 : ¬ on = 0) => ?_)
    · show tkDn tm_121 (39, [some (.inr (.inr (5, 0, 0))), some (.inl u)], [], (I, J, R)) _
      have on0 : ¬ on = 1 := fun q => absurd (d1.symm.trans q) (by decide)
      refine dn_run 1 (show tkDn tm_121 (41, [some (.inr (.inr (5, 0, 0))), some (.inl u)], [.inl (-13)], (I, J, R)) _ from ?_)
      refine dn_ret0 rfl rfl rfl rfl ?_
      exact hQ1 ⟨h1, fun q => on0 q.1⟩ I J R C2 rfl rfl
    · show tkDn tm_121 (24, [some (.inr (.inr (5, 0, 0))), some (.inl u)], [], (I, J, R)) _
      have on1 : on = 1 := hb.resolve_left d1
      obtain ⟨rT, rt, rc, r6⟩ := cR on1
      have hR := hQ2 h1
      have hN := hQ1
      rw [ci] at hR hN
      subst ei
      show tkDn tm_121 (24, [some (.inr (.inr (5, 0, 0))), some (.inl (nI i))], [], (I, J, R)) _
      refine dn_run 5 (show tkDn tm_121 (33, [some (.inr (.inr (5, 0, 0))), some (.inl (nI i))], [.inl (nI i), .inr (.inr (1, R 0, 0)), .inr (.inr (2, 0, 0))], (I, J, R)) _ from ?_)
      refine dn_call rfl rfl rfl rfl rfl (sr_isOpen rT cP w (by omega) ?_)
      show tkDn tm_121 (36, [some (.inr (.inr (5, 0, 0))), some (.inl (nI i))], [.inl (if opn S T i then 1 else 0)], (I, J, R)) _
      refine dn_if rfl rfl rfl (fun (c1 : ¬ (if opn S T i then 1 else 0) = 0) => ?_) (fun (c1 : (if opn S T i then 1 else 0) = 0) => ?_)
      · show tkDn tm_121 (42, [some (.inr (.inr (5, 0, 0))), some (.inl (nI i))], [], (I, J, R)) _
        have op : opn S T i := Classical.byContradiction fun q => c1 (ite10.mpr q)
        have hR := hR ⟨on1, op⟩
        refine dn_run 7 (show tkDn tm_121 (55, [some (.inr (.inr (5, 0, 0))), some (.inl (nI i))], [.inl (nI i), .inr (.inr (4, 0, 0)), .inr (.inr (1, R 0, 0)), .inr (.inr (2, 0, 0))], (I, J, R)) _ from ?_)
        refine dn_call rfl rfl rfl rfl rfl (sr_canComeNow rT cP w (he on1) (hv on1) rt hi ?_)
        show tkDn tm_121 (58, [some (.inr (.inr (5, 0, 0))), some (.inl (nI i))], [.inl (if ftF S e v T t i = t.toInt64 then 1 else 0)], (I, J, R)) _
        refine dn_if rfl rfl rfl (fun (c2 : (if ftF S e v T t i = t.toInt64 then 1 else 0) = 0) => ?_) (fun (c2 : ¬ (if ftF S e v T t i = t.toInt64 then 1 else 0) = 0) => ?_)
        · show tkDn tm_121 (65, [some (.inr (.inr (5, 0, 0))), some (.inl (nI i))], [], (I, J, R)) _
          refine dn_run 1 (show tkDn tm_121 (66, [some (.inr (.inr (5, 0, 0))), some (.inl (nI i))], [.inl 0], (I, J, R)) _ from ?_)
          refine dn_ret0 rfl rfl rfl rfl ?_
          rw [if_neg (ite10.mp c2)] at hR; exact hR I J R C2 rfl rfl
        · show tkDn tm_121 (61, [some (.inr (.inr (5, 0, 0))), some (.inl (nI i))], [], (I, J, R)) _
          refine dn_run 2 (show tkDn tm_121 (66, [some (.inr (.inr (5, 0, 0))), some (.inl (nI i))], [.inl 1], (I, J, R)) _ from ?_)
          refine dn_ret0 rfl rfl rfl rfl ?_
          rw [if_pos (Classical.byContradiction fun q => c2 (ite10.mpr q))] at hR; exact hR I J R C2 rfl rfl
      · show tkDn tm_121 (39, [some (.inr (.inr (5, 0, 0))), some (.inl (nI i))], [], (I, J, R)) _
        refine dn_run 1 (show tkDn tm_121 (41, [some (.inr (.inr (5, 0, 0))), some (.inl (nI i))], [.inl (-13)], (I, J, R)) _ from ?_)
        refine dn_ret0 rfl rfl rfl rfl ?_
        exact hN ⟨h1, fun q => ite10.mp c1 q.2⟩ I J R C2 rfl rfl
  · show tkDn tm_121 (11, [some (.inr (.inr (5, 0, 0))), some (.inl u)], [], (I, J, R)) _
    refine dn_run 1 (show tkDn tm_121 (13, [some (.inr (.inr (5, 0, 0))), some (.inl u)], [.inl (-11)], (I, J, R)) _ from ?_)
    refine dn_ret0 rfl rfl rfl rfl ?_
    exact hQ0 (ite10.mp c0) I J R C2 rfl rfl
set_option maxRecDepth 8000 in
theorem sx_goOn {I : tkI} {J : tkJ} {R : Nat → Nat} {Q : tkQ} {S : tkS} {z : Nat} {B : Nat → Int32} {on : Int32} {T : Nat → Int32} {t : Int32} (w : WF S) (C : CInv S z B on T t I J R) (hb : on = 0 ∨ on = 1) {e v : tkD} (he : on = 1 → RowP 16 (J 4 0 1) e) (hv : on = 1 → WRow (J 4 0 4) v) (ht9 : on = 1 → ¬ t = -9) (hQ1 : (¬ on = 1 ∨ ltF S T t (sG S) 0 = true) → ∀ I' J' R', CInv S z B on T t I' J' R' → I' 6 0 = I 6 0 → J' 6 0 = J 6 0 → Q (some (.inl (-13))) (I', J', R')) (hQ2 : on = 1 → ¬ ltF S T t (sG S) 0 = true → ∀ I' J' R', CInv S z B 1 (goF S e v t 16 T).2 (t + 1) I' J' R' → I' 6 0 = I 6 0 → J' 6 0 = J 6 0 → Q (some (.inl (nI (goF S e v t 16 T).1))) (I', J', R')) : tkDn tm_118 (0, [some (.inr (.inr (5, 0, 0)))], [], (I, J, R)) Q := by
  have hM16 := w.1
  have hL60 := w.2.1
  have hG6 := w.2.2.1
  have C2 := C
  obtain ⟨⟨b0, b1, b01⟩, cP, cT, cC, cW, cO, cR⟩ := C
  refine dn_run 2 (show tkDn tm_118 (4, [some (.inr (.inr (5, 0, 0)))], [.inr (.inr (2, 0, 0))], (I, J, R)) _ from ?_)
  refine dn_call rfl rfl rfl rfl rfl ?_
  show tkDn tm_42 (0, [some (.inr (.inr (2, 0, 0)))], [], (I, J, R)) _
  refine dn_run 2 (show tkDn tm_42 (4, [some (.inr (.inr (2, 0, 0)))], [.inl (I 2 0 0 1)], (I, J, R)) _ from ?_)
  rw [cO]
  show tkDn tm_42 (4, [some (.inr (.inr (2, 0, 0)))], [.inl on], (I, J, R)) _
  refine dn_retb rfl rfl rfl rfl hb ?_
  show tkDn tm_118 (7, [some (.inr (.inr (5, 0, 0)))], [.inl on], (I, J, R)) _
  refine dn_if rfl rfl rfl (fun (d1 : on = 0) => ?_) (fun (d1 : ¬ on = 0) => ?_)
  · show tkDn tm_118 (24, [some (.inr (.inr (5, 0, 0)))], [], (I, J, R)) _
    have on0 : ¬ on = 1 := fun q => absurd (d1.symm.trans q) (by decide)
    refine dn_run 1 (show tkDn tm_118 (26, [some (.inr (.inr (5, 0, 0)))], [.inl (-13)], (I, J, R)) _ from ?_)
    refine dn_ret0 rfl rfl rfl rfl ?_
    exact hQ1 (Or.inl on0) I J R C2 rfl rfl
  · show tkDn tm_118 (10, [some (.inr (.inr (5, 0, 0)))], [], (I, J, R)) _
    have on1 : on = 1 := hb.resolve_left d1
    obtain ⟨rT, rt, rc, r6⟩ := cR on1
    refine dn_run 4 (show tkDn tm_118 (18, [some (.inr (.inr (5, 0, 0)))], [.inr (.inr (1, R 0, 0)), .inr (.inr (2, 0, 0))], (I, J, R)) _ from ?_)
    refine dn_call rfl rfl rfl rfl rfl (sr_someoneIsLate rT cP w rt ?_)
    show tkDn tm_118 (21, [some (.inr (.inr (5, 0, 0)))], [.inl (if ltF S T t (sG S) 0 = true then 1 else 0)], (I, J, R)) _
    refine dn_if rfl rfl rfl (fun (c1 : (if ltF S T t (sG S) 0 = true then 1 else 0) = 0) => ?_) (fun (c1 : ¬ (if ltF S T t (sG S) 0 = true then 1 else 0) = 0) => ?_)
    · show tkDn tm_118 (27, [some (.inr (.inr (5, 0, 0)))], [], (I, J, R)) _
      have nl := ite10.mp c1
      refine dn_run 6 (show tkDn tm_118 (39, [some (.inr (.inr (5, 0, 0)))], [.inr (.inr (4, 0, 0)), .inr (.inr (1, R 0, 0)), .inr (.inr (2, 0, 0))], (I, J, R)) _ from ?_)
      refine dn_call rfl rfl rfl rfl rfl (sr_letAll rT cP w (he on1) (hv on1) rt (fun X k1 k2 k3 k4 => ?_))
      show tkDn tm_118 (42, [some (.inr (.inr (5, 0, 0)))], [.inl (nI (goF S e v t 16 T).1)], (tk_so I 2 0 X, J, R)) _
      have hn := goF_nc (S := S) (e := e) (v := v) (ht9 on1) 16 T
      have hn2 := ncF_le (T := T) (sM S)
      refine dn_ret0 rfl rfl rfl rfl ?_
      exact hQ2 on1 nl _ _ _ ⟨⟨b0, b1, b01⟩, by rw [tk_so_ne (by omega)]; exact cP, by rw [tk_so_ne (by omega)]; exact cT, by rw [tk_so_ne (by omega)]; exact cC, by rw [tk_so_ne (by omega)]; exact cW, by rw [tk_so_same]; exact k3.trans (cO.trans on1), fun _ => ⟨fun j hj => by rw [tk_so_same]; exact k1 j hj, by rw [tk_so_same]; exact k2, by rw [tk_so_same, k4, rc, nI_add, show sM S - ncF (goF S e v t 16 T).2 (sM S) = sM S - ncF T (sM S) + (goF S e v t 16 T).1 by omega], by rw [tk_so_ne (by omega)]; exact r6⟩⟩ (tk_so_ne (by omega)) rfl
    · show tkDn tm_118 (24, [some (.inr (.inr (5, 0, 0)))], [], (I, J, R)) _
      refine dn_run 1 (show tkDn tm_118 (26, [some (.inr (.inr (5, 0, 0)))], [.inl (-13)], (I, J, R)) _ from ?_)
      refine dn_ret0 rfl rfl rfl rfl ?_
      exact hQ1 (Or.inr (Classical.byContradiction fun q => c1 (ite10.mpr q))) I J R C2 rfl rfl
set_option maxRecDepth 8000 in
theorem sx_idle {I : tkI} {J : tkJ} {R : Nat → Nat} {Q : tkQ} {S : tkS} {z : Nat} {B : Nat → Int32} {on : Int32} {T : Nat → Int32} {t : Int32} (w : WF S) (C : CInv S z B on T t I J R) (hb : on = 0 ∨ on = 1) {e v : tkD} (he : on = 1 → RowP 16 (J 4 0 1) e) (hv : on = 1 → WRow (J 4 0 4) v) {n0 : Int32} (hQ0 : ¬ (0 ≤ n0 ∧ n0 ≤ 200000) → ∀ I' J' R', CInv S z B on T t I' J' R' → I' 6 0 = I 6 0 → J' 6 0 = J 6 0 → Q (some (.inl (-12))) (I', J', R')) (hQ1 : (0 ≤ n0 ∧ n0 ≤ 200000) → (¬ on = 1 ∨ ltF S T t (sG S) 0 = true) → ∀ I' J' R', CInv S z B on T t I' J' R' → I' 6 0 = I 6 0 → J' 6 0 = J 6 0 → Q (some (.inl (-13))) (I', J', R')) (hQ2 : (0 ≤ n0 ∧ n0 ≤ 200000) → on = 1 → ¬ ltF S T t (sG S) 0 = true → ∀ I' J' R', CInv S z B 1 T (t + (paF S e v T t n0 - t.toInt64).toInt32) I' J' R' → I' 6 0 = I 6 0 → J' 6 0 = J 6 0 → Q (some (.inl (paF S e v T t n0 - t.toInt64).toInt32)) (I', J', R')) : tkDn tm_119 (0, [some (.inr (.inr (5, 0, 0))), some (.inl n0)], [], (I, J, R)) Q := by
  have hM16 := w.1
  have hL60 := w.2.1
  have hG6 := w.2.2.1
  have C2 := C
  obtain ⟨⟨b0, b1, b01⟩, cP, cT, cC, cW, cO, cR⟩ := C
  refine dn_run 1 (show tkDn tm_119 (1, [some (.inr (.inr (5, 0, 0))), some (.inl n0)], [.inl n0], (I, J, R)) _ from ?_)
  refine dn_if rfl rfl rfl (fun (a1 : n0 < 0) => ?_) (fun (a1 : ¬ n0 < 0) => ?_)
  · show tkDn tm_119 (10, [some (.inr (.inr (5, 0, 0))), some (.inl n0)], [], (I, J, R)) _
    refine dn_run 1 (show tkDn tm_119 (12, [some (.inr (.inr (5, 0, 0))), some (.inl n0)], [.inl (-12)], (I, J, R)) _ from ?_)
    refine dn_ret0 rfl rfl rfl rfl ?_
    exact hQ0 (fun q => absurd a1 (Int32.not_lt.mpr q.1)) I J R C2 rfl rfl
  · show tkDn tm_119 (4, [some (.inr (.inr (5, 0, 0))), some (.inl n0)], [], (I, J, R)) _
    refine dn_run 2 (show tkDn tm_119 (7, [some (.inr (.inr (5, 0, 0))), some (.inl n0)], [.inl 200000, .inl n0], (I, J, R)) _ from ?_)
    refine dn_if rfl rfl rfl (fun (a2 : n0 ≤ 200000) => ?_) (fun (a2 : ¬ n0 ≤ 200000) => ?_)
    · show tkDn tm_119 (13, [some (.inr (.inr (5, 0, 0))), some (.inl n0)], [], (I, J, R)) _
      have hn0 : 0 ≤ n0 ∧ n0 ≤ 200000 := ⟨Int32.not_lt.mp a1, a2⟩
      have hQ1 := hQ1 hn0
      refine dn_run 2 (show tkDn tm_119 (17, [some (.inr (.inr (5, 0, 0))), some (.inl n0)], [.inr (.inr (2, 0, 0))], (I, J, R)) _ from ?_)
      refine dn_call rfl rfl rfl rfl rfl ?_
      show tkDn tm_42 (0, [some (.inr (.inr (2, 0, 0)))], [], (I, J, R)) _
      refine dn_run 2 (show tkDn tm_42 (4, [some (.inr (.inr (2, 0, 0)))], [.inl (I 2 0 0 1)], (I, J, R)) _ from ?_)
      rw [cO]
      show tkDn tm_42 (4, [some (.inr (.inr (2, 0, 0)))], [.inl on], (I, J, R)) _
      refine dn_retb rfl rfl rfl rfl hb ?_
      show tkDn tm_119 (20, [some (.inr (.inr (5, 0, 0))), some (.inl n0)], [.inl on], (I, J, R)) _
      refine dn_if rfl rfl rfl (fun (d1 : on = 0) => ?_) (fun (d1 : ¬ on = 0) => ?_)
      · show tkDn tm_119 (37, [some (.inr (.inr (5, 0, 0))), some (.inl n0)], [], (I, J, R)) _
        have on0 : ¬ on = 1 := fun q => absurd (d1.symm.trans q) (by decide)
        refine dn_run 1 (show tkDn tm_119 (39, [some (.inr (.inr (5, 0, 0))), some (.inl n0)], [.inl (-13)], (I, J, R)) _ from ?_)
        refine dn_ret0 rfl rfl rfl rfl ?_
        exact hQ1 (Or.inl on0) I J R C2 rfl rfl
      · show tkDn tm_119 (23, [some (.inr (.inr (5, 0, 0))), some (.inl n0)], [], (I, J, R)) _
        have on1 : on = 1 := hb.resolve_left d1
        obtain ⟨rT, rt, rc, r6⟩ := cR on1
        refine dn_run 4 (show tkDn tm_119 (31, [some (.inr (.inr (5, 0, 0))), some (.inl n0)], [.inr (.inr (1, R 0, 0)), .inr (.inr (2, 0, 0))], (I, J, R)) _ from ?_)
        refine dn_call rfl rfl rfl rfl rfl (sr_someoneIsLate rT cP w rt ?_)
        show tkDn tm_119 (34, [some (.inr (.inr (5, 0, 0))), some (.inl n0)], [.inl (if ltF S T t (sG S) 0 = true then 1 else 0)], (I, J, R)) _
        refine dn_if rfl rfl rfl (fun (c1 : (if ltF S T t (sG S) 0 = true then 1 else 0) = 0) => ?_) (fun (c1 : ¬ (if ltF S T t (sG S) 0 = true then 1 else 0) = 0) => ?_)
        · show tkDn tm_119 (40, [some (.inr (.inr (5, 0, 0))), some (.inl n0)], [], (I, J, R)) _
          have nl := ite10.mp c1
          refine dn_run 7 (show tkDn tm_119 (53, [some (.inr (.inr (5, 0, 0))), some (.inl n0)], [.inl n0, .inr (.inr (4, 0, 0)), .inr (.inr (1, R 0, 0)), .inr (.inr (2, 0, 0))], (I, J, R)) _ from ?_)
          refine dn_call rfl rfl rfl rfl rfl (sr_passTicks rT cP w (he on1) (hv on1) rt ?_)
          show tkDn tm_119 (56, [some (.inr (.inr (5, 0, 0))), some (.inl n0)], [.inl ((paF S e v T t n0 - t.toInt64).toInt32)], (tk_so I 2 0 (tk_u2 (I 2 0) 0 2 (t + (paF S e v T t n0 - t.toInt64).toInt32)), J, R)) _
          refine dn_ret0 rfl rfl rfl rfl ?_
          exact hQ2 hn0 on1 nl _ _ _ ⟨⟨b0, b1, b01⟩, by rw [tk_so_ne (by omega)]; exact cP, by rw [tk_so_ne (by omega)]; exact cT, by rw [tk_so_ne (by omega)]; exact cC, by rw [tk_so_ne (by omega)]; exact cW, by rw [tk_so_same, tk_u2_0 (by decide)]; exact cO.trans on1, fun _ => ⟨fun j hj => by rw [tk_so_same, tk_u2_ne (by decide)]; exact rT j hj, by rw [tk_so_same, tk_u2_1], by rw [tk_so_same, tk_u2_0 (by decide)]; exact rc, by rw [tk_so_ne (by omega)]; exact r6⟩⟩ (tk_so_ne (by omega)) rfl
        · show tkDn tm_119 (37, [some (.inr (.inr (5, 0, 0))), some (.inl n0)], [], (I, J, R)) _
          refine dn_run 1 (show tkDn tm_119 (39, [some (.inr (.inr (5, 0, 0))), some (.inl n0)], [.inl (-13)], (I, J, R)) _ from ?_)
          refine dn_ret0 rfl rfl rfl rfl ?_
          exact hQ1 (Or.inr (Classical.byContradiction fun q => c1 (ite10.mpr q))) I J R C2 rfl rfl
    · show tkDn tm_119 (10, [some (.inr (.inr (5, 0, 0))), some (.inl n0)], [], (I, J, R)) _
      refine dn_run 1 (show tkDn tm_119 (12, [some (.inr (.inr (5, 0, 0))), some (.inl n0)], [.inl (-12)], (I, J, R)) _ from ?_)
      refine dn_ret0 rfl rfl rfl rfl ?_
      exact hQ0 (fun q => a2 q.2) I J R C2 rfl rfl
set_option maxRecDepth 8000 in
theorem sx_check {I : tkI} {J : tkJ} {R : Nat → Nat} {Q : tkQ} {S : tkS} {z : Nat} {B : Nat → Int32} {on : Int32} {T : Nat → Int32} {t : Int32} (w : WF S) (C : CInv S z B on T t I J R) (hb : on = 0 ∨ on = 1) (hQ1 : ¬ on = 1 → ∀ I' J' R', CInv S z B on T t I' J' R' → I' 6 0 = I 6 0 → J' 6 0 = J 6 0 → Q (some (.inl (-13))) (I', J', R')) (hQ2 : on = 1 → ∀ I' J' R', CInv S z B on T t I' J' R' → I' 6 0 = I 6 0 → J' 6 0 = J 6 0 → Q (some (.inl (ckF S T))) (I', J', R')) : tkDn tm_123 (0, [some (.inr (.inr (5, 0, 0))), none], [], (I, J, R)) Q := by
  have hM16 := w.1
  have hL60 := w.2.1
  have hG6 := w.2.2.1
  have C2 := C
  obtain ⟨⟨b0, b1, b01⟩, cP, cT, cC, cW, cO, cR⟩ := C
  refine dn_run 2 (show tkDn tm_123 (4, [some (.inr (.inr (5, 0, 0))), none], [.inr (.inr (2, 0, 0))], (I, J, R)) _ from ?_)
  refine dn_call rfl rfl rfl rfl rfl ?_
  show tkDn tm_42 (0, [some (.inr (.inr (2, 0, 0)))], [], (I, J, R)) _
  refine dn_run 2 (show tkDn tm_42 (4, [some (.inr (.inr (2, 0, 0)))], [.inl (I 2 0 0 1)], (I, J, R)) _ from ?_)
  rw [cO]
  show tkDn tm_42 (4, [some (.inr (.inr (2, 0, 0)))], [.inl on], (I, J, R)) _
  refine dn_retb rfl rfl rfl rfl hb ?_
  show tkDn tm_123 (7, [some (.inr (.inr (5, 0, 0))), none], [.inl on], (I, J, R)) _
  refine dn_if rfl rfl rfl (fun (d1 : ¬ on = 0) => ?_) (fun (d1 : on = 0) => ?_)
  · show tkDn tm_123 (13, [some (.inr (.inr (5, 0, 0))), none], [], (I, J, R)) _
    have on1 : on = 1 := hb.resolve_left d1
    obtain ⟨rT, rt, rc, r6⟩ := cR on1
    have hR := hQ2 on1
    have hn2 := ncF_le (T := T) (sM S)
    refine dn_run 2 (show tkDn tm_123 (17, [some (.inr (.inr (5, 0, 0))), none], [.inr (.inr (2, 0, 0))], (I, J, R)) _ from ?_)
    refine dn_call rfl rfl rfl rfl rfl ?_
    show tkDn tm_44 (0, [some (.inr (.inr (2, 0, 0)))], [], (I, J, R)) _
    refine dn_run 2 (show tkDn tm_44 (4, [some (.inr (.inr (2, 0, 0)))], [.inl (I 2 0 0 3)], (I, J, R)) _ from ?_)
    rw [rc]
    show tkDn tm_44 (4, [some (.inr (.inr (2, 0, 0)))], [.inl (nI (sM S - ncF T (sM S)))], (I, J, R)) _
    refine dn_ret0 rfl rfl rfl rfl ?_
    show tkDn tm_123 (20, [some (.inr (.inr (5, 0, 0))), none], [.inl (nI (sM S - ncF T (sM S)))], (I, J, R)) _
    refine dn_run 2 (show tkDn tm_123 (24, [some (.inr (.inr (5, 0, 0))), none], [.inr (.inr (1, R 0, 0)), .inl (nI (sM S - ncF T (sM S)))], (I, J, R)) _ from ?_)
    refine dn_call rfl rfl rfl rfl rfl (sN_momentCount cP ?_)
    show tkDn tm_123 (27, [some (.inr (.inr (5, 0, 0))), none], [.inl (nI (sM S)), .inl (nI (sM S - ncF T (sM S)))], (I, J, R)) _
    refine dn_if rfl rfl rfl (fun (c1 : (nI (sM S)) ≤ (nI (sM S - ncF T (sM S)))) => ?_) (fun (c1 : ¬ (nI (sM S)) ≤ (nI (sM S - ncF T (sM S)))) => ?_)
    · show tkDn tm_123 (32, [some (.inr (.inr (5, 0, 0))), none], [], (I, J, R)) _
      have h0 : ¬ 0 < ncF T (sM S) := fun q => absurd c1 (nI_ge (by omega) (by omega))
      rw [show ckF S T = if fbF S T (sL S) 0 = -9 then 1 else -20 - fbF S T (sL S) 0 from if_neg h0] at hR
      refine dn_run 4 (show tkDn tm_123 (40, [some (.inr (.inr (5, 0, 0))), none], [.inr (.inr (1, R 0, 0)), .inr (.inr (2, 0, 0))], (I, J, R)) _ from ?_)
      refine dn_call rfl rfl rfl rfl rfl (sr_firstBrokenLink rT cP w ?_)
      show tkDn tm_123 (43, [some (.inr (.inr (5, 0, 0))), none], [.inl (fbF S T (sL S) 0)], (I, J, R)) _
      refine dn_run 3 (show tkDn tm_123 (47, [some (.inr (.inr (5, 0, 0))), some (.inl (fbF S T (sL S) 0))], [.inl (-9), .inl (fbF S T (sL S) 0)], (I, J, R)) _ from ?_)
      refine dn_if rfl rfl rfl (fun (c2 : ¬ (fbF S T (sL S) 0) = (-9)) => ?_) (fun (c2 : (fbF S T (sL S) 0) = (-9)) => ?_)
      · show tkDn tm_123 (54, [some (.inr (.inr (5, 0, 0))), some (.inl (fbF S T (sL S) 0))], [], (I, J, R)) _
        refine dn_run 3 (show tkDn tm_123 (58, [some (.inr (.inr (5, 0, 0))), some (.inl (fbF S T (sL S) 0))], [.inl ((-20) - (fbF S T (sL S) 0))], (I, J, R)) _ from ?_)
        refine dn_ret0 rfl rfl rfl rfl ?_
        rw [if_neg c2] at hR; exact hR I J R C2 rfl rfl
      · show tkDn tm_123 (50, [some (.inr (.inr (5, 0, 0))), some (.inl (fbF S T (sL S) 0))], [], (I, J, R)) _
        refine dn_run 2 (show tkDn tm_123 (58, [some (.inr (.inr (5, 0, 0))), some (.inl (fbF S T (sL S) 0))], [.inl 1], (I, J, R)) _ from ?_)
        refine dn_ret0 rfl rfl rfl rfl ?_
        rw [if_pos c2] at hR; exact hR I J R C2 rfl rfl
    · show tkDn tm_123 (30, [some (.inr (.inr (5, 0, 0))), none], [], (I, J, R)) _
      have h0 : 0 < ncF T (sM S) := Nat.pos_of_ne_zero (fun q => c1 (by rw [q]; exact Int32.le_refl _))
      refine dn_run 1 (show tkDn tm_123 (31, [some (.inr (.inr (5, 0, 0))), none], [.inl 0], (I, J, R)) _ from ?_)
      refine dn_ret0 rfl rfl rfl rfl ?_
      rw [show ckF S T = 0 from if_pos h0] at hR; exact hR I J R C2 rfl rfl
  · show tkDn tm_123 (10, [some (.inr (.inr (5, 0, 0))), none], [], (I, J, R)) _
    have on0 : ¬ on = 1 := fun q => absurd (d1.symm.trans q) (by decide)
    refine dn_run 1 (show tkDn tm_123 (12, [some (.inr (.inr (5, 0, 0))), none], [.inl (-13)], (I, J, R)) _ from ?_)
    refine dn_ret0 rfl rfl rfl rfl ?_
    exact hQ1 on0 I J R C2 rfl rfl
set_option maxRecDepth 8000 in
theorem sx_told {I : tkI} {J : tkJ} {R : Nat → Nat} {Q : tkQ} {S : tkS} {z : Nat} {B : Nat → Int32} {on : Int32} {T : Nat → Int32} {t : Int32} (w : WF S) (C : CInv S z B on T t I J R) (hb : on = 0 ∨ on = 1) {u : Int32} (hQ : ∀ I' J' R', CInv S z B on T t I' J' R' → I' 6 0 = I 6 0 → J' 6 0 = J 6 0 → Q (some (.inl (tdF S T on z u))) (I', J', R')) : tkDn tm_124 (0, [some (.inr (.inr (5, 0, 0))), some (.inl u)], [], (I, J, R)) Q := by
  have hM16 := w.1
  have hL60 := w.2.1
  have hG6 := w.2.2.1
  have C2 := C
  obtain ⟨⟨b0, b1, b01⟩, cP, cT, cC, cW, cO, cR⟩ := C
  unfold tdF at hQ
  refine dn_run 1 (show tkDn tm_124 (1, [some (.inr (.inr (5, 0, 0))), some (.inl u)], [.inl u], (I, J, R)) _ from ?_)
  by_cases k0 : u = 0
  · subst k0
    refine dn_sw (t := 36) rfl (by decide) (by decide) ?_
    show tkDn tm_124 (36, [some (.inr (.inr (5, 0, 0))), some (.inl 0)], [], (I, J, R)) _
    rw [if_pos rfl] at hQ
    refine dn_run 2 (show tkDn tm_124 (40, [some (.inr (.inr (5, 0, 0))), some (.inl 0)], [.inr (.inr (1, R 0, 0))], (I, J, R)) _ from ?_)
    refine dn_call rfl rfl rfl rfl rfl (sN_momentCount cP ?_)
    show tkDn tm_124 (43, [some (.inr (.inr (5, 0, 0))), some (.inl 0)], [.inl (nI (sM S))], (I, J, R)) _
    refine dn_ret0 rfl rfl rfl rfl ?_
    exact hQ I J R C2 rfl rfl
  by_cases k1 : u = 1
  · subst k1
    refine dn_sw (t := 44) rfl (by decide) (by decide) ?_
    show tkDn tm_124 (44, [some (.inr (.inr (5, 0, 0))), some (.inl 1)], [], (I, J, R)) _
    rw [if_neg (by decide)] at hQ
    rw [if_pos rfl] at hQ
    refine dn_run 2 (show tkDn tm_124 (48, [some (.inr (.inr (5, 0, 0))), some (.inl 1)], [.inr (.inr (1, R 0, 0))], (I, J, R)) _ from ?_)
    refine dn_call rfl rfl rfl rfl rfl (sN_linkCount cP ?_)
    show tkDn tm_124 (51, [some (.inr (.inr (5, 0, 0))), some (.inl 1)], [.inl (nI (sL S))], (I, J, R)) _
    refine dn_ret0 rfl rfl rfl rfl ?_
    exact hQ I J R C2 rfl rfl
  by_cases k2 : u = 2
  · subst k2
    refine dn_sw (t := 52) rfl (by decide) (by decide) ?_
    show tkDn tm_124 (52, [some (.inr (.inr (5, 0, 0))), some (.inl 2)], [], (I, J, R)) _
    rw [if_neg (by decide)] at hQ
    rw [if_neg (by decide)] at hQ
    rw [if_pos rfl] at hQ
    refine dn_run 2 (show tkDn tm_124 (56, [some (.inr (.inr (5, 0, 0))), some (.inl 2)], [.inr (.inr (1, R 0, 0))], (I, J, R)) _ from ?_)
    refine dn_call rfl rfl rfl rfl rfl (sN_giftCount cP ?_)
    show tkDn tm_124 (59, [some (.inr (.inr (5, 0, 0))), some (.inl 2)], [.inl (nI (sG S))], (I, J, R)) _
    refine dn_ret0 rfl rfl rfl rfl ?_
    exact hQ I J R C2 rfl rfl
  by_cases k3 : u = 3
  · subst k3
    refine dn_sw (t := 60) rfl (by decide) (by decide) ?_
    show tkDn tm_124 (60, [some (.inr (.inr (5, 0, 0))), some (.inl 3)], [], (I, J, R)) _
    rw [if_neg (by decide)] at hQ
    rw [if_neg (by decide)] at hQ
    rw [if_neg (by decide)] at hQ
    rw [if_pos rfl] at hQ
    refine dn_run 2 (show tkDn tm_124 (64, [some (.inr (.inr (5, 0, 0))), some (.inl 3)], [.inr (.inr (2, 0, 0))], (I, J, R)) _ from ?_)
    refine dn_call rfl rfl rfl rfl rfl ?_
    show tkDn tm_42 (0, [some (.inr (.inr (2, 0, 0)))], [], (I, J, R)) _
    refine dn_run 2 (show tkDn tm_42 (4, [some (.inr (.inr (2, 0, 0)))], [.inl (I 2 0 0 1)], (I, J, R)) _ from ?_)
    rw [cO]
    show tkDn tm_42 (4, [some (.inr (.inr (2, 0, 0)))], [.inl on], (I, J, R)) _
    refine dn_retb rfl rfl rfl rfl hb ?_
    show tkDn tm_124 (67, [some (.inr (.inr (5, 0, 0))), some (.inl 3)], [.inl on], (I, J, R)) _
    refine dn_if rfl rfl rfl (fun (d1 : on = 0) => ?_) (fun (d1 : ¬ on = 0) => ?_)
    · show tkDn tm_124 (80, [some (.inr (.inr (5, 0, 0))), some (.inl 3)], [], (I, J, R)) _
      have on0 : ¬ on = 1 := fun q => absurd (d1.symm.trans q) (by decide)
      refine dn_run 1 (show tkDn tm_124 (81, [some (.inr (.inr (5, 0, 0))), some (.inl 3)], [.inl 0], (I, J, R)) _ from ?_)
      refine dn_ret0 rfl rfl rfl rfl ?_
      rw [if_neg on0] at hQ; exact hQ I J R C2 rfl rfl
    · show tkDn tm_124 (70, [some (.inr (.inr (5, 0, 0))), some (.inl 3)], [], (I, J, R)) _
      have on1 : on = 1 := hb.resolve_left d1
      obtain ⟨rT, rt, rc, r6⟩ := cR on1
      rw [if_pos on1] at hQ
      refine dn_run 2 (show tkDn tm_124 (74, [some (.inr (.inr (5, 0, 0))), some (.inl 3)], [.inr (.inr (2, 0, 0))], (I, J, R)) _ from ?_)
      refine dn_call rfl rfl rfl rfl rfl ?_
      show tkDn tm_44 (0, [some (.inr (.inr (2, 0, 0)))], [], (I, J, R)) _
      refine dn_run 2 (show tkDn tm_44 (4, [some (.inr (.inr (2, 0, 0)))], [.inl (I 2 0 0 3)], (I, J, R)) _ from ?_)
      rw [rc]
      show tkDn tm_44 (4, [some (.inr (.inr (2, 0, 0)))], [.inl (nI (sM S - ncF T (sM S)))], (I, J, R)) _
      refine dn_ret0 rfl rfl rfl rfl ?_
      show tkDn tm_124 (77, [some (.inr (.inr (5, 0, 0))), some (.inl 3)], [.inl (nI (sM S - ncF T (sM S)))], (I, J, R)) _
      refine dn_run 1 (show tkDn tm_124 (81, [some (.inr (.inr (5, 0, 0))), some (.inl 3)], [.inl (nI (sM S - ncF T (sM S)))], (I, J, R)) _ from ?_)
      refine dn_ret0 rfl rfl rfl rfl ?_
      exact hQ I J R C2 rfl rfl
  by_cases k4 : u = 4
  · subst k4
    refine dn_sw (t := 82) rfl (by decide) (by decide) ?_
    show tkDn tm_124 (82, [some (.inr (.inr (5, 0, 0))), some (.inl 4)], [], (I, J, R)) _
    rw [if_neg (by decide)] at hQ
    rw [if_neg (by decide)] at hQ
    rw [if_neg (by decide)] at hQ
    rw [if_neg (by decide)] at hQ
    rw [if_pos rfl] at hQ
    refine dn_run 2 (show tkDn tm_124 (86, [some (.inr (.inr (5, 0, 0))), some (.inl 4)], [.inr (.inr (3, 0, 0))], (I, J, R)) _ from ?_)
    refine dn_call rfl rfl rfl rfl rfl ?_
    show tkDn tm_69 (0, [some (.inr (.inr (3, 0, 0)))], [], (I, J, R)) _
    refine dn_run 2 (show tkDn tm_69 (4, [some (.inr (.inr (3, 0, 0)))], [.inl (I 3 0 0 2)], (I, J, R)) _ from ?_)
    rw [cT.1]
    show tkDn tm_69 (4, [some (.inr (.inr (3, 0, 0)))], [.inl (nI z)], (I, J, R)) _
    refine dn_ret0 rfl rfl rfl rfl ?_
    show tkDn tm_124 (89, [some (.inr (.inr (5, 0, 0))), some (.inl 4)], [.inl (nI z)], (I, J, R)) _
    refine dn_ret0 rfl rfl rfl rfl ?_
    exact hQ I J R C2 rfl rfl
  refine dn_sw (t := 90) rfl (by decide) (by rw [sw_out (by have := lv_neT k0 (show (0 : Int32).toInt = 0 by decide); have := lv_neT k1 (show (1 : Int32).toInt = 1 by decide); have := lv_neT k2 (show (2 : Int32).toInt = 2 by decide); have := lv_neT k3 (show (3 : Int32).toInt = 3 by decide); have := lv_neT k4 (show (4 : Int32).toInt = 4 by decide); omega)]; rfl) ?_
  show tkDn tm_124 (90, [some (.inr (.inr (5, 0, 0))), some (.inl u)], [], (I, J, R)) _
  refine dn_run 1 (show tkDn tm_124 (92, [some (.inr (.inr (5, 0, 0))), some (.inl u)], [.inl (-12)], (I, J, R)) _ from ?_)
  refine dn_ret0 rfl rfl rfl rfl ?_
  rw [if_neg k0, if_neg k1, if_neg k2, if_neg k3, if_neg k4] at hQ
  exact hQ I J R C2 rfl rfl
