/-! the reference: keep, bringBack, read -/
def kpL (r : Nat → Int32) (S : tkS) (l : Nat) : Prop := ∀ j, j < l → r (5 * j + 3) = nI (sf S j) ∧ r (5 * j + 4) = nI (se S j) ∧ r (5 * j + 5) = slo S j ∧ r (5 * j + 6) = shi S j ∧ r (5 * j + 7) = sgn S j
def kp0 (r : Nat → Int32) (S : tkS) : Prop := r 0 = nI (sM S) ∧ r 1 = nI (sL S) ∧ r 2 = nI (sG S)
def kpG (r : Nat → Int32) (S : tkS) (g : Nat) : Prop := ∀ j, j < g → r (310 + j) = nI (sgl S j)
def KeptP (r : Nat → Int32) (S : tkS) : Prop := kp0 r S ∧ kpL r S (sL S) ∧ kpG r S (sG S)
set_option maxRecDepth 8000 in
theorem ix5 {l c : Nat} : (5 : Int32) * nI l + nI c = nI (5 * l + c) := by
  rw [show (5 : Int32) = nI 5 from rfl, pk_mul, nI_add]
set_option maxRecDepth 8000 in
theorem ix310 {g : Nat} : (310 : Int32) + nI g = nI (310 + g) := by
  rw [show (310 : Int32) = nI 310 from rfl, nI_add]
set_option maxRecDepth 8000 in
theorem kp0.put {r : Nat → Int32} {S : tkS} (h : kp0 r S) {k : Nat} {x : Int32} (hk : 3 ≤ k) : kp0 (tk_u1 r k x) S := by
  obtain ⟨h1, h2, h3⟩ := h
  exact ⟨by rw [tk_u1_ne (by omega)]; exact h1, by rw [tk_u1_ne (by omega)]; exact h2, by rw [tk_u1_ne (by omega)]; exact h3⟩
set_option maxRecDepth 8000 in
theorem kpL.put {r : Nat → Int32} {S : tkS} {l : Nat} (h : kpL r S l) {k : Nat} {x : Int32} (hk : 5 * l + 3 ≤ k) : kpL (tk_u1 r k x) S l := fun j hj => by
  obtain ⟨h1, h2, h3, h4, h5⟩ := h j hj
  exact ⟨by rw [tk_u1_ne (by omega)]; exact h1, by rw [tk_u1_ne (by omega)]; exact h2, by rw [tk_u1_ne (by omega)]; exact h3, by rw [tk_u1_ne (by omega)]; exact h4, by rw [tk_u1_ne (by omega)]; exact h5⟩
set_option maxRecDepth 8000 in
theorem kpL.s {r : Nat → Int32} {S : tkS} {l : Nat} (h : kpL r S l) {a b c d e : Int32} (ha : a = nI (sf S l)) (hb : b = nI (se S l)) (hc : c = slo S l) (hd : d = shi S l) (he : e = sgn S l) : kpL (tk_u1 (tk_u1 (tk_u1 (tk_u1 (tk_u1 r (5 * l + 3) a) (5 * l + 4) b) (5 * l + 5) c) (5 * l + 6) d) (5 * l + 7) e) S (l + 1) := by
  intro j hj
  by_cases q : j = l
  · subst q
    refine ⟨?_, ?_, ?_, ?_, ?_⟩
    · rw [tk_u1_ne (by omega), tk_u1_ne (by omega), tk_u1_ne (by omega), tk_u1_ne (by omega), tk_u1_same]; exact ha
    · rw [tk_u1_ne (by omega), tk_u1_ne (by omega), tk_u1_ne (by omega), tk_u1_same]; exact hb
    · rw [tk_u1_ne (by omega), tk_u1_ne (by omega), tk_u1_same]; exact hc
    · rw [tk_u1_ne (by omega), tk_u1_same]; exact hd
    · rw [tk_u1_same]; exact he
  · exact ((((h.put (by omega)).put (by omega)).put (by omega)).put (by omega)).put (by omega) j (by omega)
set_option maxRecDepth 8000 in
theorem sm_kp1 {I : tkI} {J : tkJ} {R : Nat → Nat} {Q : tkQ} {S : tkS} (hP : NetP (I 6 0) S) (w : WF S) (hK : ∀ r, kp0 r S → kpL r S (sL S) → tkDn tm_145 (128, [some (.inr (.inr (6, 0, 0))), some (.inl (nI (sL S)))], [], (tk_so I 6 0 (tk_u1 (I 6 0) 10 r), J, R)) Q) : ∀ n l r, l + n = sL S → kp0 r S → kpL r S l → tkDn tm_145 (32, [some (.inr (.inr (6, 0, 0))), some (.inl (nI l))], [], (tk_so I 6 0 (tk_u1 (I 6 0) 10 r), J, R)) Q := by
  have hM16 := w.1
  have hL60 := w.2.1
  have hG6 := w.2.2.1
  have hM := hP.m
  have hG := hP.g
  have hL := hP.l
  intro n
  induction n with
  | zero =>
    intro l r hl h0 hr
    show tkDn tm_145 (32, [some (.inr (.inr (6, 0, 0))), some (.inl (nI l))], [], (tk_so I 6 0 (tk_u1 (I 6 0) 10 r), J, R)) _
    refine dn_run 3 (show tkDn tm_145 (37, [some (.inr (.inr (6, 0, 0))), some (.inl (nI l))], [.inl (I 6 0 0 1), .inl (nI l)], (tk_so I 6 0 (tk_u1 (I 6 0) 10 r), J, R)) _ from ?_)
    rw [hL]
    show tkDn tm_145 (37, [some (.inr (.inr (6, 0, 0))), some (.inl (nI l))], [.inl (nI (sL S)), .inl (nI l)], (tk_so I 6 0 (tk_u1 (I 6 0) 10 r), J, R)) _
    refine dn_if rfl rfl rfl (fun (c0 : (nI (sL S)) ≤ (nI l)) => ?_) (fun (c0 : ¬ (nI (sL S)) ≤ (nI l)) => ?_)
    · show tkDn tm_145 (128, [some (.inr (.inr (6, 0, 0))), some (.inl (nI l))], [], (tk_so I 6 0 (tk_u1 (I 6 0) 10 r), J, R)) _
      have hl : l = sL S := by omega
      subst hl
      exact hK r h0 hr
    · exact absurd (nI_le (by omega) (by omega)) c0
  | succ n ih =>
    intro l r hl h0 hr
    show tkDn tm_145 (32, [some (.inr (.inr (6, 0, 0))), some (.inl (nI l))], [], (tk_so I 6 0 (tk_u1 (I 6 0) 10 r), J, R)) _
    refine dn_run 3 (show tkDn tm_145 (37, [some (.inr (.inr (6, 0, 0))), some (.inl (nI l))], [.inl (I 6 0 0 1), .inl (nI l)], (tk_so I 6 0 (tk_u1 (I 6 0) 10 r), J, R)) _ from ?_)
    rw [hL]
    show tkDn tm_145 (37, [some (.inr (.inr (6, 0, 0))), some (.inl (nI l))], [.inl (nI (sL S)), .inl (nI l)], (tk_so I 6 0 (tk_u1 (I 6 0) 10 r), J, R)) _
    refine dn_if rfl rfl rfl (fun (c0 : (nI (sL S)) ≤ (nI l)) => ?_) (fun (c0 : ¬ (nI (sL S)) ≤ (nI l)) => ?_)
    · exact absurd c0 (nI_ge (by omega) (by omega))
    · show tkDn tm_145 (40, [some (.inr (.inr (6, 0, 0))), some (.inl (nI l))], [], (tk_so I 6 0 (tk_u1 (I 6 0) 10 r), J, R)) _
      have hl2 : l < sL S := by omega
      have e4 := hP.fr w hl2
      have e5 := hP.en w hl2
      have e6 := hP.lo w hl2
      have e7 := hP.hi w hl2
      have e8 := hP.gn w hl2
      refine dn_run 12 (show (vp_in (nI l) 60) ∧ (vp_in ((5 * (nI l)) + 3) 320) ∧ tkDn tm_145 (56, [some (.inr (.inr (6, 0, 0))), some (.inl (nI l))], [], (tk_so (tk_so I 6 0 (tk_u1 (I 6 0) 10 r)) 6 0 (tk_u2 (tk_u1 (I 6 0) 10 r) 10 (((5 * (nI l)) + 3).toNatClampNeg) (I 6 0 4 ((nI l).toNatClampNeg))), J, R)) _ from ⟨vp_in_nI (by omega) (by omega), by rw [show (5 : Int32) * nI l + 3 = nI (5 * l + 3) from ix5]; exact vp_in_nI (by omega) (by omega), ?_⟩)
      rw [tk_so_so]
      rw [e4, show (5 : Int32) * nI l + 3 = nI (5 * l + 3) from ix5, nI_clamp (show 5 * l + 3 < 2 ^ 31 by omega), tk_u2_u1]
      obtain ⟨r1, k1⟩ : ∃ Y, Y = tk_u1 r (5 * l + 3) (nI (sf S l)) := ⟨_, rfl⟩
      rw [← k1]
      show tkDn tm_145 (56, [some (.inr (.inr (6, 0, 0))), some (.inl (nI l))], [], (tk_so I 6 0 (tk_u1 (I 6 0) 10 r1), J, R)) _
      refine dn_run 12 (show (vp_in (nI l) 60) ∧ (vp_in ((5 * (nI l)) + 4) 320) ∧ tkDn tm_145 (72, [some (.inr (.inr (6, 0, 0))), some (.inl (nI l))], [], (tk_so (tk_so I 6 0 (tk_u1 (I 6 0) 10 r1)) 6 0 (tk_u2 (tk_u1 (I 6 0) 10 r1) 10 (((5 * (nI l)) + 4).toNatClampNeg) (I 6 0 5 ((nI l).toNatClampNeg))), J, R)) _ from ⟨vp_in_nI (by omega) (by omega), by rw [show (5 : Int32) * nI l + 4 = nI (5 * l + 4) from ix5]; exact vp_in_nI (by omega) (by omega), ?_⟩)
      rw [tk_so_so]
      rw [e5, show (5 : Int32) * nI l + 4 = nI (5 * l + 4) from ix5, nI_clamp (show 5 * l + 4 < 2 ^ 31 by omega), tk_u2_u1]
      obtain ⟨r2, k2⟩ : ∃ Y, Y = tk_u1 r1 (5 * l + 4) (nI (se S l)) := ⟨_, rfl⟩
      rw [← k2]
      show tkDn tm_145 (72, [some (.inr (.inr (6, 0, 0))), some (.inl (nI l))], [], (tk_so I 6 0 (tk_u1 (I 6 0) 10 r2), J, R)) _
      refine dn_run 12 (show (vp_in (nI l) 60) ∧ (vp_in ((5 * (nI l)) + 5) 320) ∧ tkDn tm_145 (88, [some (.inr (.inr (6, 0, 0))), some (.inl (nI l))], [], (tk_so (tk_so I 6 0 (tk_u1 (I 6 0) 10 r2)) 6 0 (tk_u2 (tk_u1 (I 6 0) 10 r2) 10 (((5 * (nI l)) + 5).toNatClampNeg) (I 6 0 6 ((nI l).toNatClampNeg))), J, R)) _ from ⟨vp_in_nI (by omega) (by omega), by rw [show (5 : Int32) * nI l + 5 = nI (5 * l + 5) from ix5]; exact vp_in_nI (by omega) (by omega), ?_⟩)
      rw [tk_so_so]
      rw [e6, show (5 : Int32) * nI l + 5 = nI (5 * l + 5) from ix5, nI_clamp (show 5 * l + 5 < 2 ^ 31 by omega), tk_u2_u1]
      obtain ⟨r3, k3⟩ : ∃ Y, Y = tk_u1 r2 (5 * l + 5) (slo S l) := ⟨_, rfl⟩
      rw [← k3]
      show tkDn tm_145 (88, [some (.inr (.inr (6, 0, 0))), some (.inl (nI l))], [], (tk_so I 6 0 (tk_u1 (I 6 0) 10 r3), J, R)) _
      refine dn_run 12 (show (vp_in (nI l) 60) ∧ (vp_in ((5 * (nI l)) + 6) 320) ∧ tkDn tm_145 (105, [some (.inr (.inr (6, 0, 0))), some (.inl (nI l))], [], (tk_so (tk_so I 6 0 (tk_u1 (I 6 0) 10 r3)) 6 0 (tk_u2 (tk_u1 (I 6 0) 10 r3) 10 (((5 * (nI l)) + 6).toNatClampNeg) (I 6 0 7 ((nI l).toNatClampNeg))), J, R)) _ from ⟨vp_in_nI (by omega) (by omega), by rw [show (5 : Int32) * nI l + 6 = nI (5 * l + 6) from ix5]; exact vp_in_nI (by omega) (by omega), ?_⟩)
      rw [tk_so_so]
      rw [e7, show (5 : Int32) * nI l + 6 = nI (5 * l + 6) from ix5, nI_clamp (show 5 * l + 6 < 2 ^ 31 by omega), tk_u2_u1]
      obtain ⟨r4, k4⟩ : ∃ Y, Y = tk_u1 r3 (5 * l + 6) (shi S l) := ⟨_, rfl⟩
      rw [← k4]
      show tkDn tm_145 (105, [some (.inr (.inr (6, 0, 0))), some (.inl (nI l))], [], (tk_so I 6 0 (tk_u1 (I 6 0) 10 r4), J, R)) _
      refine dn_run 14 (show (vp_in (nI l) 60) ∧ (vp_in ((5 * (nI l)) + 7) 320) ∧ tkDn tm_145 (32, [some (.inr (.inr (6, 0, 0))), some (.inl ((nI l) + 1))], [], (tk_so (tk_so I 6 0 (tk_u1 (I 6 0) 10 r4)) 6 0 (tk_u2 (tk_u1 (I 6 0) 10 r4) 10 (((5 * (nI l)) + 7).toNatClampNeg) (I 6 0 8 ((nI l).toNatClampNeg))), J, R)) _ from ⟨vp_in_nI (by omega) (by omega), by rw [show (5 : Int32) * nI l + 7 = nI (5 * l + 7) from ix5]; exact vp_in_nI (by omega) (by omega), ?_⟩)
      rw [tk_so_so]
      rw [e8, show (5 : Int32) * nI l + 7 = nI (5 * l + 7) from ix5, nI_clamp (show 5 * l + 7 < 2 ^ 31 by omega), tk_u2_u1]
      obtain ⟨r5, k5⟩ : ∃ Y, Y = tk_u1 r4 (5 * l + 7) (sgn S l) := ⟨_, rfl⟩
      rw [← k5]
      rw [nI_1]
      rw [show r5 = tk_u1 (tk_u1 (tk_u1 (tk_u1 (tk_u1 r (5 * l + 3) (nI (sf S l))) (5 * l + 4) (nI (se S l))) (5 * l + 5) (slo S l)) (5 * l + 6) (shi S l)) (5 * l + 7) (sgn S l) by rw [k5, k4, k3, k2, k1]]
      exact ih (l + 1) _ (by omega) (((((h0.put (by omega)).put (by omega)).put (by omega)).put (by omega)).put (by omega)) (hr.s rfl rfl rfl rfl rfl)
set_option maxRecDepth 8000 in
theorem sm_kp2 {I : tkI} {J : tkJ} {R : Nat → Nat} {Q : tkQ} {S : tkS} (hP : NetP (I 6 0) S) (w : WF S) (hQ : ∀ r, KeptP r S → Q none (tk_so I 6 0 (tk_u1 (I 6 0) 10 r), J, R)) : ∀ n l r, l + n = sG S → kp0 r S → kpL r S (sL S) → kpG r S l → tkDn tm_145 (130, [some (.inr (.inr (6, 0, 0))), some (.inl (nI l))], [], (tk_so I 6 0 (tk_u1 (I 6 0) 10 r), J, R)) Q := by
  have hM16 := w.1
  have hL60 := w.2.1
  have hG6 := w.2.2.1
  have hM := hP.m
  have hG := hP.g
  have hL := hP.l
  intro n
  induction n with
  | zero =>
    intro l r hl h0 hr hg
    show tkDn tm_145 (130, [some (.inr (.inr (6, 0, 0))), some (.inl (nI l))], [], (tk_so I 6 0 (tk_u1 (I 6 0) 10 r), J, R)) _
    refine dn_run 3 (show tkDn tm_145 (135, [some (.inr (.inr (6, 0, 0))), some (.inl (nI l))], [.inl (I 6 0 0 2), .inl (nI l)], (tk_so I 6 0 (tk_u1 (I 6 0) 10 r), J, R)) _ from ?_)
    rw [hG]
    show tkDn tm_145 (135, [some (.inr (.inr (6, 0, 0))), some (.inl (nI l))], [.inl (nI (sG S)), .inl (nI l)], (tk_so I 6 0 (tk_u1 (I 6 0) 10 r), J, R)) _
    refine dn_if rfl rfl rfl (fun (c0 : (nI (sG S)) ≤ (nI l)) => ?_) (fun (c0 : ¬ (nI (sG S)) ≤ (nI l)) => ?_)
    · show tkDn tm_145 (160, [some (.inr (.inr (6, 0, 0))), some (.inl (nI l))], [], (tk_so I 6 0 (tk_u1 (I 6 0) 10 r), J, R)) _
      refine dn_ret0 rfl rfl rfl rfl ?_
      exact hQ r ⟨h0, hr, by rw [show sG S = l by omega]; exact hg⟩
    · exact absurd (nI_le (by omega) (by omega)) c0
  | succ n ih =>
    intro l r hl h0 hr hg
    show tkDn tm_145 (130, [some (.inr (.inr (6, 0, 0))), some (.inl (nI l))], [], (tk_so I 6 0 (tk_u1 (I 6 0) 10 r), J, R)) _
    refine dn_run 3 (show tkDn tm_145 (135, [some (.inr (.inr (6, 0, 0))), some (.inl (nI l))], [.inl (I 6 0 0 2), .inl (nI l)], (tk_so I 6 0 (tk_u1 (I 6 0) 10 r), J, R)) _ from ?_)
    rw [hG]
    show tkDn tm_145 (135, [some (.inr (.inr (6, 0, 0))), some (.inl (nI l))], [.inl (nI (sG S)), .inl (nI l)], (tk_so I 6 0 (tk_u1 (I 6 0) 10 r), J, R)) _
    refine dn_if rfl rfl rfl (fun (c0 : (nI (sG S)) ≤ (nI l)) => ?_) (fun (c0 : ¬ (nI (sG S)) ≤ (nI l)) => ?_)
    · exact absurd c0 (nI_ge (by omega) (by omega))
    · show tkDn tm_145 (138, [some (.inr (.inr (6, 0, 0))), some (.inl (nI l))], [], (tk_so I 6 0 (tk_u1 (I 6 0) 10 r), J, R)) _
      have hl2 : l < sG S := by omega
      have e9 := hP.gl w hl2
      refine dn_run 12 (show (vp_in (nI l) 6) ∧ (vp_in (310 + (nI l)) 320) ∧ tkDn tm_145 (130, [some (.inr (.inr (6, 0, 0))), some (.inl ((nI l) + 1))], [], (tk_so (tk_so I 6 0 (tk_u1 (I 6 0) 10 r)) 6 0 (tk_u2 (tk_u1 (I 6 0) 10 r) 10 ((310 + (nI l)).toNatClampNeg) (I 6 0 9 ((nI l).toNatClampNeg))), J, R)) _ from ⟨vp_in_nI (by omega) (by omega), by rw [ix310]; exact vp_in_nI (by omega) (by omega), ?_⟩)
      rw [tk_so_so]
      rw [e9, nI_1, ix310, nI_clamp (show 310 + l < 2 ^ 31 by omega), tk_u2_u1]
      refine ih (l + 1) _ (by omega) (h0.put (by omega)) (hr.put (by omega)) (fun j hj => ?_)
      by_cases q : j = l
      · rw [q, tk_u1_same]
      · rw [tk_u1_ne (by omega)]; exact hg j (by omega)
set_option maxRecDepth 8000 in
theorem tk_u2_eq {α : Type} {N : Nat → Nat → α} {s k : Nat} {x : α} : tk_u2 N s k x = tk_u1 N s (tk_u1 (N s) k x) := by
  funext a
  by_cases h : a = s
  · subst h; rw [tk_u2_at, tk_u1_same]
  · rw [tk_u2_ne h, tk_u1_ne h]
set_option maxRecDepth 8000 in
theorem sm_keep {I : tkI} {J : tkJ} {R : Nat → Nat} {Q : tkQ} {S : tkS} (hP : NetP (I 6 0) S) (w : WF S) (hQ : ∀ r, KeptP r S → Q none (tk_so I 6 0 (tk_u1 (I 6 0) 10 r), J, R)) : tkDn tm_145 (0, [some (.inr (.inr (6, 0, 0))), none], [], (I, J, R)) Q := by
  have hM16 := w.1
  have hL60 := w.2.1
  have hG6 := w.2.2.1
  have hM := hP.m
  have hG := hP.g
  have hL := hP.l
  refine dn_run 20 (show (vp_in 0 320) ∧ (vp_in 1 320) ∧ (vp_in 2 320) ∧ tkDn tm_145 (32, [some (.inr (.inr (6, 0, 0))), some (.inl 0)], [], (tk_so (tk_so (tk_so I 6 0 (tk_u2 (I 6 0) 10 ((0 : Int32).toNatClampNeg) (I 6 0 0 0))) 6 0 (tk_u2 (tk_u2 (I 6 0) 10 ((0 : Int32).toNatClampNeg) (I 6 0 0 0)) 10 ((1 : Int32).toNatClampNeg) (I 6 0 0 1))) 6 0 (tk_u2 (tk_u2 (tk_u2 (I 6 0) 10 ((0 : Int32).toNatClampNeg) (I 6 0 0 0)) 10 ((1 : Int32).toNatClampNeg) (I 6 0 0 1)) 10 ((2 : Int32).toNatClampNeg) (I 6 0 0 2)), J, R)) _ from ⟨(show vp_in (nI 0) 320 from vp_in_nI (by decide) (by decide)), (show vp_in (nI 1) 320 from vp_in_nI (by decide) (by decide)), (show vp_in (nI 2) 320 from vp_in_nI (by decide) (by decide)), ?_⟩)
  rw [tk_so_so, tk_so_so]
  rw [hM, hL, hG, tk_u2_eq (N := I 6 0), tk_u2_u1, tk_u2_u1]
  refine sm_kp1 hP w (fun r h0 hr => ?_) (sL S) 0 _ (Nat.zero_add _) ⟨?_, ?_, ?_⟩ (fun j hj => absurd hj (Nat.not_lt_zero _))
  · show tkDn tm_145 (128, [some (.inr (.inr (6, 0, 0))), some (.inl (nI (sL S)))], [], (tk_so I 6 0 (tk_u1 (I 6 0) 10 r), J, R)) _
    refine dn_run 2 (show tkDn tm_145 (130, [some (.inr (.inr (6, 0, 0))), some (.inl 0)], [], (tk_so I 6 0 (tk_u1 (I 6 0) 10 r), J, R)) _ from ?_)
    exact sm_kp2 hP w hQ (sG S) 0 r (Nat.zero_add _) h0 hr (fun j hj => absurd hj (Nat.not_lt_zero _))
  · exact (tk_u1_ne (by decide)).trans ((tk_u1_ne (by decide)).trans tk_u1_same)
  · exact (tk_u1_ne (by decide)).trans tk_u1_same
  · exact tk_u1_same
/-- fields that bringBack leaves alone -/
def fB (X0 X : Nat → Nat → Int32) : Prop := (∀ j, 3 ≤ j → X 0 j = X0 0 j) ∧ ∀ s, 10 ≤ s → X s = X0 s
def bbL (X : Nat → Nat → Int32) (S : tkS) (l : Nat) : Prop := ∀ j, j < l → X 4 j = nI (sf S j) ∧ X 5 j = nI (se S j) ∧ X 6 j = slo S j ∧ X 7 j = shi S j ∧ X 8 j = sgn S j
def bb0 (X : Nat → Nat → Int32) (S : tkS) : Prop := X 0 0 = nI (sM S) ∧ X 0 1 = nI (sL S) ∧ X 0 2 = nI (sG S)
set_option maxRecDepth 8000 in
theorem fB.u {X0 X : Nat → Nat → Int32} (h : fB X0 X) {s k : Nat} {x : Int32} (hs : s ≤ 9) (hk : ¬ s = 0 ∨ k < 3) : fB X0 (tk_u2 X s k x) := ⟨fun j hj => by rw [tk_u2_0 (by omega)]; exact h.1 j hj, fun a ha => by rw [tk_u2_ne (by omega)]; exact h.2 a ha⟩
set_option maxRecDepth 8000 in
theorem bb0.u {X : Nat → Nat → Int32} {S : tkS} (h : bb0 X S) {s k : Nat} {x : Int32} (hs : ¬ s = 0) : bb0 (tk_u2 X s k x) S := ⟨by rw [tk_u2_ne (by omega)]; exact h.1, by rw [tk_u2_ne (by omega)]; exact h.2.1, by rw [tk_u2_ne (by omega)]; exact h.2.2⟩
set_option maxRecDepth 8000 in
theorem bbL.s {X : Nat → Nat → Int32} {S : tkS} {l : Nat} (h : bbL X S l) {a b c d e : Int32} (ha : a = nI (sf S l)) (hb : b = nI (se S l)) (hc : c = slo S l) (hd : d = shi S l) (he : e = sgn S l) : bbL (tk_u2 (tk_u2 (tk_u2 (tk_u2 (tk_u2 X 4 l a) 5 l b) 6 l c) 7 l d) 8 l e) S (l + 1) := by
  intro j hj
  by_cases q : j = l
  · subst q
    refine ⟨?_, ?_, ?_, ?_, ?_⟩
    · rw [tk_u2_ne (by decide), tk_u2_ne (by decide), tk_u2_ne (by decide), tk_u2_ne (by decide), tk_u2_1]; exact ha
    · rw [tk_u2_ne (by decide), tk_u2_ne (by decide), tk_u2_ne (by decide), tk_u2_1]; exact hb
    · rw [tk_u2_ne (by decide), tk_u2_ne (by decide), tk_u2_1]; exact hc
    · rw [tk_u2_ne (by decide), tk_u2_1]; exact hd
    · rw [tk_u2_1]; exact he
  · obtain ⟨h1, h2, h3, h4, h5⟩ := h j (by omega)
    have e : ∀ s, tk_u2 (tk_u2 (tk_u2 (tk_u2 (tk_u2 X 4 l a) 5 l b) 6 l c) 7 l d) 8 l e s j = X s j := fun s => by
      rw [tk_u2_0 (by omega), tk_u2_0 (by omega), tk_u2_0 (by omega), tk_u2_0 (by omega), tk_u2_0 (by omega)]
    rw [e, e, e, e, e]
    exact ⟨h1, h2, h3, h4, h5⟩
set_option maxRecDepth 8000 in
theorem bbL.g {X : Nat → Nat → Int32} {S : tkS} {l k : Nat} {x : Int32} (h : bbL X S l) : bbL (tk_u2 X 9 k x) S l := fun j hj => by
  rw [tk_u2_ne (by decide), tk_u2_ne (by decide), tk_u2_ne (by decide), tk_u2_ne (by decide), tk_u2_ne (by decide)]
  exact h j hj
set_option maxRecDepth 8000 in
theorem sm_bb1 {I : tkI} {J : tkJ} {R : Nat → Nat} {Q : tkQ} {S : tkS} (w : WF S) {X0 : Nat → Nat → Int32} (hk : KeptP (X0 10) S) (hK : ∀ X, fB X0 X → bb0 X S → bbL X S (sL S) → tkDn tm_146 (128, [some (.inr (.inr (6, 0, 0))), some (.inl (nI (sL S)))], [], (tk_so I 6 0 X, J, R)) Q) : ∀ n l X, l + n = sL S → fB X0 X → bb0 X S → bbL X S l → tkDn tm_146 (32, [some (.inr (.inr (6, 0, 0))), some (.inl (nI l))], [], (tk_so I 6 0 X, J, R)) Q := by
  have hM16 := w.1
  have hL60 := w.2.1
  have hG6 := w.2.2.1
  obtain ⟨k0, kl, kg⟩ := hk
  intro n
  induction n with
  | zero =>
    intro l X hl hf h0 hr
    show tkDn tm_146 (32, [some (.inr (.inr (6, 0, 0))), some (.inl (nI l))], [], (tk_so I 6 0 X, J, R)) _
    refine dn_run 3 (show tkDn tm_146 (37, [some (.inr (.inr (6, 0, 0))), some (.inl (nI l))], [.inl (X 0 1), .inl (nI l)], (tk_so I 6 0 X, J, R)) _ from ?_)
    rw [h0.2.1]
    show tkDn tm_146 (37, [some (.inr (.inr (6, 0, 0))), some (.inl (nI l))], [.inl (nI (sL S)), .inl (nI l)], (tk_so I 6 0 X, J, R)) _
    refine dn_if rfl rfl rfl (fun (c0 : (nI (sL S)) ≤ (nI l)) => ?_) (fun (c0 : ¬ (nI (sL S)) ≤ (nI l)) => ?_)
    · show tkDn tm_146 (128, [some (.inr (.inr (6, 0, 0))), some (.inl (nI l))], [], (tk_so I 6 0 X, J, R)) _
      have hl : l = sL S := by omega
      subst hl
      exact hK X hf h0 hr
    · exact absurd (nI_le (by omega) (by omega)) c0
  | succ n ih =>
    intro l X hl hf h0 hr
    show tkDn tm_146 (32, [some (.inr (.inr (6, 0, 0))), some (.inl (nI l))], [], (tk_so I 6 0 X, J, R)) _
    refine dn_run 3 (show tkDn tm_146 (37, [some (.inr (.inr (6, 0, 0))), some (.inl (nI l))], [.inl (X 0 1), .inl (nI l)], (tk_so I 6 0 X, J, R)) _ from ?_)
    rw [h0.2.1]
    show tkDn tm_146 (37, [some (.inr (.inr (6, 0, 0))), some (.inl (nI l))], [.inl (nI (sL S)), .inl (nI l)], (tk_so I 6 0 X, J, R)) _
    refine dn_if rfl rfl rfl (fun (c0 : (nI (sL S)) ≤ (nI l)) => ?_) (fun (c0 : ¬ (nI (sL S)) ≤ (nI l)) => ?_)
    · exact absurd c0 (nI_ge (by omega) (by omega))
    · show tkDn tm_146 (40, [some (.inr (.inr (6, 0, 0))), some (.inl (nI l))], [], (tk_so I 6 0 X, J, R)) _
      have hl2 : l < sL S := by omega
      obtain ⟨q3, q4, q5, q6, q7⟩ := kl l hl2
      have h10 := hf.2 10 (by decide)
      refine dn_run 12 (show (vp_in ((5 * (nI l)) + 3) 320) ∧ (vp_in (nI l) 60) ∧ tkDn tm_146 (56, [some (.inr (.inr (6, 0, 0))), some (.inl (nI l))], [], (tk_so (tk_so I 6 0 X) 6 0 (tk_u2 X 4 ((nI l).toNatClampNeg) (X 10 (((5 * (nI l)) + 3).toNatClampNeg))), J, R)) _ from ⟨by rw [show (5 : Int32) * nI l + 3 = nI (5 * l + 3) from ix5]; exact vp_in_nI (by omega) (by omega), vp_in_nI (by omega) (by omega), ?_⟩)
      rw [tk_so_so]
      rw [show (5 : Int32) * nI l + 3 = nI (5 * l + 3) from ix5, nI_clamp (show 5 * l + 3 < 2 ^ 31 by omega), nI_clamp (show l < 2 ^ 31 by omega)]
      rw [h10, q3]
      obtain ⟨X1, e1⟩ : ∃ Y, Y = tk_u2 X 4 l (nI (sf S l)) := ⟨_, rfl⟩
      rw [← e1]
      have h101 : X1 10 = X0 10 := by rw [e1, tk_u2_ne (by decide)]; exact h10
      show tkDn tm_146 (56, [some (.inr (.inr (6, 0, 0))), some (.inl (nI l))], [], (tk_so I 6 0 X1, J, R)) _
      refine dn_run 12 (show (vp_in ((5 * (nI l)) + 4) 320) ∧ (vp_in (nI l) 60) ∧ tkDn tm_146 (72, [some (.inr (.inr (6, 0, 0))), some (.inl (nI l))], [], (tk_so (tk_so I 6 0 X1) 6 0 (tk_u2 X1 5 ((nI l).toNatClampNeg) (X1 10 (((5 * (nI l)) + 4).toNatClampNeg))), J, R)) _ from ⟨by rw [show (5 : Int32) * nI l + 4 = nI (5 * l + 4) from ix5]; exact vp_in_nI (by omega) (by omega), vp_in_nI (by omega) (by omega), ?_⟩)
      rw [tk_so_so]
      rw [show (5 : Int32) * nI l + 4 = nI (5 * l + 4) from ix5, nI_clamp (show 5 * l + 4 < 2 ^ 31 by omega), nI_clamp (show l < 2 ^ 31 by omega)]
      rw [h101, q4]
      obtain ⟨X2, e2⟩ : ∃ Y, Y = tk_u2 X1 5 l (nI (se S l)) := ⟨_, rfl⟩
      rw [← e2]
      have h102 : X2 10 = X0 10 := by rw [e2, tk_u2_ne (by decide)]; exact h101
      show tkDn tm_146 (72, [some (.inr (.inr (6, 0, 0))), some (.inl (nI l))], [], (tk_so I 6 0 X2, J, R)) _
      refine dn_run 12 (show (vp_in ((5 * (nI l)) + 5) 320) ∧ (vp_in (nI l) 60) ∧ tkDn tm_146 (88, [some (.inr (.inr (6, 0, 0))), some (.inl (nI l))], [], (tk_so (tk_so I 6 0 X2) 6 0 (tk_u2 X2 6 ((nI l).toNatClampNeg) (X2 10 (((5 * (nI l)) + 5).toNatClampNeg))), J, R)) _ from ⟨by rw [show (5 : Int32) * nI l + 5 = nI (5 * l + 5) from ix5]; exact vp_in_nI (by omega) (by omega), vp_in_nI (by omega) (by omega), ?_⟩)
      rw [tk_so_so]
      rw [show (5 : Int32) * nI l + 5 = nI (5 * l + 5) from ix5, nI_clamp (show 5 * l + 5 < 2 ^ 31 by omega), nI_clamp (show l < 2 ^ 31 by omega)]
      rw [h102, q5]
      obtain ⟨X3, e3⟩ : ∃ Y, Y = tk_u2 X2 6 l (slo S l) := ⟨_, rfl⟩
      rw [← e3]
      have h103 : X3 10 = X0 10 := by rw [e3, tk_u2_ne (by decide)]; exact h102
      show tkDn tm_146 (88, [some (.inr (.inr (6, 0, 0))), some (.inl (nI l))], [], (tk_so I 6 0 X3, J, R)) _
      refine dn_run 12 (show (vp_in ((5 * (nI l)) + 6) 320) ∧ (vp_in (nI l) 60) ∧ tkDn tm_146 (105, [some (.inr (.inr (6, 0, 0))), some (.inl (nI l))], [], (tk_so (tk_so I 6 0 X3) 6 0 (tk_u2 X3 7 ((nI l).toNatClampNeg) (X3 10 (((5 * (nI l)) + 6).toNatClampNeg))), J, R)) _ from ⟨by rw [show (5 : Int32) * nI l + 6 = nI (5 * l + 6) from ix5]; exact vp_in_nI (by omega) (by omega), vp_in_nI (by omega) (by omega), ?_⟩)
      rw [tk_so_so]
      rw [show (5 : Int32) * nI l + 6 = nI (5 * l + 6) from ix5, nI_clamp (show 5 * l + 6 < 2 ^ 31 by omega), nI_clamp (show l < 2 ^ 31 by omega)]
      rw [h103, q6]
      obtain ⟨X4, e4⟩ : ∃ Y, Y = tk_u2 X3 7 l (shi S l) := ⟨_, rfl⟩
      rw [← e4]
      have h104 : X4 10 = X0 10 := by rw [e4, tk_u2_ne (by decide)]; exact h103
      show tkDn tm_146 (105, [some (.inr (.inr (6, 0, 0))), some (.inl (nI l))], [], (tk_so I 6 0 X4, J, R)) _
      refine dn_run 14 (show (vp_in ((5 * (nI l)) + 7) 320) ∧ (vp_in (nI l) 60) ∧ tkDn tm_146 (32, [some (.inr (.inr (6, 0, 0))), some (.inl ((nI l) + 1))], [], (tk_so (tk_so I 6 0 X4) 6 0 (tk_u2 X4 8 ((nI l).toNatClampNeg) (X4 10 (((5 * (nI l)) + 7).toNatClampNeg))), J, R)) _ from ⟨by rw [show (5 : Int32) * nI l + 7 = nI (5 * l + 7) from ix5]; exact vp_in_nI (by omega) (by omega), vp_in_nI (by omega) (by omega), ?_⟩)
      rw [tk_so_so]
      rw [show (5 : Int32) * nI l + 7 = nI (5 * l + 7) from ix5, nI_clamp (show 5 * l + 7 < 2 ^ 31 by omega), nI_clamp (show l < 2 ^ 31 by omega)]
      rw [h104, q7]
      obtain ⟨X5, e5⟩ : ∃ Y, Y = tk_u2 X4 8 l (sgn S l) := ⟨_, rfl⟩
      rw [← e5]
      rw [nI_1]
      have eX : X5 = tk_u2 (tk_u2 (tk_u2 (tk_u2 (tk_u2 X 4 l (nI (sf S l))) 5 l (nI (se S l))) 6 l (slo S l)) 7 l (shi S l)) 8 l (sgn S l) := by rw [e5, e4, e3, e2, e1]
      rw [eX]
      refine ih (l + 1) _ (by omega) (((((hf.u (by omega) (by omega)).u (by omega) (by omega)).u (by omega) (by omega)).u (by omega) (by omega)).u (by omega) (by omega)) (((((h0.u (by decide)).u (by decide)).u (by decide)).u (by decide)).u (by decide)) (hr.s rfl rfl rfl rfl rfl)
set_option maxRecDepth 8000 in
theorem sm_bb2 {I : tkI} {J : tkJ} {R : Nat → Nat} {Q : tkQ} {S : tkS} (w : WF S) {X0 : Nat → Nat → Int32} (hk : KeptP (X0 10) S) (hQ : ∀ X, fB X0 X → NetP X S → Q none (tk_so I 6 0 X, J, R)) : ∀ n l X, l + n = sG S → fB X0 X → bb0 X S → bbL X S (sL S) → (∀ j, j < l → X 9 j = nI (sgl S j)) → tkDn tm_146 (130, [some (.inr (.inr (6, 0, 0))), some (.inl (nI l))], [], (tk_so I 6 0 X, J, R)) Q := by
  have hM16 := w.1
  have hL60 := w.2.1
  have hG6 := w.2.2.1
  obtain ⟨k0, kl, kg⟩ := hk
  intro n
  induction n with
  | zero =>
    intro l X hl hf h0 hr hg
    show tkDn tm_146 (130, [some (.inr (.inr (6, 0, 0))), some (.inl (nI l))], [], (tk_so I 6 0 X, J, R)) _
    refine dn_run 3 (show tkDn tm_146 (135, [some (.inr (.inr (6, 0, 0))), some (.inl (nI l))], [.inl (X 0 2), .inl (nI l)], (tk_so I 6 0 X, J, R)) _ from ?_)
    rw [h0.2.2]
    show tkDn tm_146 (135, [some (.inr (.inr (6, 0, 0))), some (.inl (nI l))], [.inl (nI (sG S)), .inl (nI l)], (tk_so I 6 0 X, J, R)) _
    refine dn_if rfl rfl rfl (fun (c0 : (nI (sG S)) ≤ (nI l)) => ?_) (fun (c0 : ¬ (nI (sG S)) ≤ (nI l)) => ?_)
    · show tkDn tm_146 (160, [some (.inr (.inr (6, 0, 0))), some (.inl (nI l))], [], (tk_so I 6 0 X, J, R)) _
      refine dn_ret0 rfl rfl rfl rfl ?_
      exact hQ X hf ⟨h0.1, h0.2.1, h0.2.2, hr, fun g hg2 => hg g (by omega)⟩
    · exact absurd (nI_le (by omega) (by omega)) c0
  | succ n ih =>
    intro l X hl hf h0 hr hg
    show tkDn tm_146 (130, [some (.inr (.inr (6, 0, 0))), some (.inl (nI l))], [], (tk_so I 6 0 X, J, R)) _
    refine dn_run 3 (show tkDn tm_146 (135, [some (.inr (.inr (6, 0, 0))), some (.inl (nI l))], [.inl (X 0 2), .inl (nI l)], (tk_so I 6 0 X, J, R)) _ from ?_)
    rw [h0.2.2]
    show tkDn tm_146 (135, [some (.inr (.inr (6, 0, 0))), some (.inl (nI l))], [.inl (nI (sG S)), .inl (nI l)], (tk_so I 6 0 X, J, R)) _
    refine dn_if rfl rfl rfl (fun (c0 : (nI (sG S)) ≤ (nI l)) => ?_) (fun (c0 : ¬ (nI (sG S)) ≤ (nI l)) => ?_)
    · exact absurd c0 (nI_ge (by omega) (by omega))
    · show tkDn tm_146 (138, [some (.inr (.inr (6, 0, 0))), some (.inl (nI l))], [], (tk_so I 6 0 X, J, R)) _
      have hl2 : l < sG S := by omega
      have h10 := hf.2 10 (by decide)
      refine dn_run 12 (show (vp_in (310 + (nI l)) 320) ∧ (vp_in (nI l) 6) ∧ tkDn tm_146 (130, [some (.inr (.inr (6, 0, 0))), some (.inl ((nI l) + 1))], [], (tk_so (tk_so I 6 0 X) 6 0 (tk_u2 X 9 ((nI l).toNatClampNeg) (X 10 ((310 + (nI l)).toNatClampNeg))), J, R)) _ from ⟨by rw [ix310]; exact vp_in_nI (by omega) (by omega), vp_in_nI (by omega) (by omega), ?_⟩)
      rw [tk_so_so]
      rw [nI_1, ix310, nI_clamp (show 310 + l < 2 ^ 31 by omega), nI_clamp (show l < 2 ^ 31 by omega), h10, kg l hl2]
      refine ih (l + 1) _ (by omega) (hf.u (by omega) (by omega)) (h0.u (by decide)) hr.g (fun j hj => ?_)
      by_cases q : j = l
      · rw [q, tk_u2_1]
      · rw [tk_u2_0 (by omega)]; exact hg j (by omega)
set_option maxRecDepth 8000 in
theorem sm_bringBack {I : tkI} {J : tkJ} {R : Nat → Nat} {Q : tkQ} {S : tkS} (w : WF S) {X0 : Nat → Nat → Int32} (hk : KeptP (X0 10) S) (hQ : ∀ X, fB X0 X → NetP X S → Q none (tk_so I 6 0 X, J, R)) : tkDn tm_146 (0, [some (.inr (.inr (6, 0, 0))), none], [], (tk_so I 6 0 X0, J, R)) Q := by
  have hk2 := hk
  obtain ⟨k0, kl, kg⟩ := hk2
  refine dn_run 20 (show (vp_in 0 320) ∧ (vp_in 1 320) ∧ (vp_in 2 320) ∧ tkDn tm_146 (32, [some (.inr (.inr (6, 0, 0))), some (.inl 0)], [], (tk_so (tk_so (tk_so (tk_so I 6 0 X0) 6 0 (tk_u2 X0 0 0 (X0 10 ((0 : Int32).toNatClampNeg)))) 6 0 (tk_u2 (tk_u2 X0 0 0 (X0 10 ((0 : Int32).toNatClampNeg))) 0 1 (X0 10 ((1 : Int32).toNatClampNeg)))) 6 0 (tk_u2 (tk_u2 (tk_u2 X0 0 0 (X0 10 ((0 : Int32).toNatClampNeg))) 0 1 (X0 10 ((1 : Int32).toNatClampNeg))) 0 2 (X0 10 ((2 : Int32).toNatClampNeg))), J, R)) _ from ⟨(show vp_in (nI 0) 320 from vp_in_nI (by decide) (by decide)), (show vp_in (nI 1) 320 from vp_in_nI (by decide) (by decide)), (show vp_in (nI 2) 320 from vp_in_nI (by decide) (by decide)), ?_⟩)
  rw [tk_so_so, tk_so_so, tk_so_so]
  rw [show X0 10 (0 : Int32).toNatClampNeg = nI (sM S) from k0.1, show X0 10 (1 : Int32).toNatClampNeg = nI (sL S) from k0.2.1, show X0 10 (2 : Int32).toNatClampNeg = nI (sG S) from k0.2.2]
  refine sm_bb1 w (X0 := X0) hk (fun X hf h0 hr => ?_) (sL S) 0 _ (Nat.zero_add _) (fB.u (fB.u (fB.u ⟨fun _ _ => rfl, fun _ _ => rfl⟩ (by omega) (by omega)) (by omega) (by omega)) (by omega) (by omega)) ⟨by rw [tk_u2_0 (by decide), tk_u2_0 (by decide), tk_u2_1], by rw [tk_u2_0 (by decide), tk_u2_1], by rw [tk_u2_1]⟩ (fun j hj => absurd hj (Nat.not_lt_zero _))
  show tkDn tm_146 (128, [some (.inr (.inr (6, 0, 0))), some (.inl (nI (sL S)))], [], (tk_so I 6 0 X, J, R)) _
  refine dn_run 2 (show tkDn tm_146 (130, [some (.inr (.inr (6, 0, 0))), some (.inl 0)], [], (tk_so I 6 0 X, J, R)) _ from ?_)
  exact sm_bb2 w hk hQ (sG S) 0 X (Nat.zero_add _) hf h0 hr (fun j hj => absurd hj (Nat.not_lt_zero _))
set_option maxRecDepth 8000 in
theorem sm_rd_loop {I : tkI} {J : tkJ} {R : Nat → Nat} {Q : tkQ} {z : Nat} {B : Nat → Int32} (hz : z ≤ 1000) {ran kn : Int32} {X0 : Nat → Nat → Int32} (hB : TpM X0 z B) {S0 : tkS} (hK1 : ∀ X, fI X0 X → NetP X (rdF B z 1001 S0 0).2.2 → (rdF B z 1001 S0 0).1 = true → tkDn tm_147 (68, [some (.inr (.inr (6, 0, 0))), some (.inl ran), some (.inl kn), some (.inl 1)], [], (tk_so I 6 0 X, J, R)) Q) (hK0 : ∀ X, fI X0 X → (rdF B z 1001 S0 0).1 = false → X 0 18 = nI (rdF B z 1001 S0 0).2.1 → tkDn tm_147 (68, [some (.inr (.inr (6, 0, 0))), some (.inl ran), some (.inl kn), some (.inl 0)], [], (tk_so I 6 0 X, J, R)) Q) : ∀ f S q X, q ≤ z → z - q < f → WF S → NetP X S → fI X0 X → NxP B z (sbF B (z - q) q) X → rdF B z f S q = rdF B z 1001 S0 0 → tkDn tm_147 (40, [some (.inr (.inr (6, 0, 0))), some (.inl ran), some (.inl kn), some (.inl 1)], [], (tk_so I 6 0 X, J, R)) Q := by
  intro f
  induction f with
  | zero => intro S q X hq hf; omega
  | succ f ih =>
    intro S q X hq hf w hP hX hN h
    have hs := sbF_le (B := B) (z - q) q
    obtain ⟨r, hr⟩ : ∃ r, r = sbF B (z - q) q := ⟨_, rfl⟩
    rw [← hr] at hs hN
    have hend : X 0 15 = -1 ↔ r = z := by
      rcases hN.2 with ⟨h1, h2⟩ | ⟨h1, v, q, h2, h3, h4, h5⟩ | ⟨h1, h2, h3, h4, h5⟩ | ⟨h1, h2, h3, h4⟩
      · exact ⟨fun _ => h1, fun _ => h2⟩
      · rw [h3]; exact ⟨fun y => absurd y (by decide), fun y => by omega⟩
      · rw [h4]; refine ⟨fun y => ?_, fun y => by omega⟩; rcases h3 with u | u | u | u <;> (rw [u] at y; exact absurd y (by decide))
      · rw [h4]; exact ⟨fun y => absurd y (by decide), fun y => by omega⟩
    show tkDn tm_147 (40, [some (.inr (.inr (6, 0, 0))), some (.inl ran), some (.inl kn), some (.inl 1)], [], (tk_so I 6 0 X, J, R)) _
    refine dn_run 1 (show tkDn tm_147 (41, [some (.inr (.inr (6, 0, 0))), some (.inl ran), some (.inl kn), some (.inl 1)], [.inl 1], (tk_so I 6 0 X, J, R)) _ from ?_)
    refine dn_if rfl rfl rfl (fun (c0 : ((1 : Int32) = 0 : Prop)) => ?_) (fun (c0 : (¬ (1 : Int32) = 0 : Prop)) => ?_)
    · exact absurd c0 (by decide)
    · show tkDn tm_147 (44, [some (.inr (.inr (6, 0, 0))), some (.inl ran), some (.inl kn), some (.inl 1)], [], (tk_so I 6 0 X, J, R)) _
      refine dn_run 3 (show tkDn tm_147 (49, [some (.inr (.inr (6, 0, 0))), some (.inl ran), some (.inl kn), some (.inl 1)], [.inl (-1), .inl (X 0 15)], (tk_so I 6 0 X, J, R)) _ from ?_)
      refine dn_if rfl rfl rfl (fun (c1 : (X 0 15) = (-1)) => ?_) (fun (c1 : ¬ (X 0 15) = (-1)) => ?_)
      · show tkDn tm_147 (68, [some (.inr (.inr (6, 0, 0))), some (.inl ran), some (.inl kn), some (.inl 1)], [], (tk_so I 6 0 X, J, R)) _
        have e1 := (show rdF B z (f + 1) S q = (true, z, S) from if_pos (by rw [← hr]; exact hend.mp c1)).symm.trans h
        exact hK1 X hX (by rw [← e1]; exact hP) (by rw [← e1])
      · show tkDn tm_147 (52, [some (.inr (.inr (6, 0, 0))), some (.inl ran), some (.inl kn), some (.inl 1)], [], (tk_so I 6 0 X, J, R)) _
        have hne : ¬ sbF B (z - q) q = z := by rw [← hr]; exact fun y => c1 (hend.mpr y)
        have hlt : r < z := by have : ¬ r = z := fun y => c1 (hend.mpr y); omega
        have hl := itF_lt (B := B) (z := z) (q := r) (S := S) hlt
        refine dn_run 1 (show tkDn tm_147 (53, [some (.inr (.inr (6, 0, 0))), some (.inl ran), some (.inl kn), some (.inl 1)], [.inr (.inr (6, 0, 0))], (tk_so I 6 0 X, J, R)) _ from ?_)
        refine dn_call rfl rfl rfl rfl rfl (sm_item hz w (X0 := X) (hX.tp hB) hP hlt hN (fun X2 x k1 k2 k3 => ?_))
        show tkDn tm_147 (56, [some (.inr (.inr (6, 0, 0))), some (.inl ran), some (.inl kn), some (.inl 1)], [.inl x], (tk_so I 6 0 X2, J, R)) _
        refine dn_run 2 (show tkDn tm_147 (58, [some (.inr (.inr (6, 0, 0))), some (.inl ran), some (.inl kn), some (.inl x)], [.inl x], (tk_so I 6 0 X2, J, R)) _ from ?_)
        refine dn_if rfl rfl rfl (fun (c2 : x = 0) => ?_) (fun (c2 : ¬ x = 0) => ?_)
        · show tkDn tm_147 (40, [some (.inr (.inr (6, 0, 0))), some (.inl ran), some (.inl kn), some (.inl x)], [], (tk_so I 6 0 X2, J, R)) _
          obtain ⟨-, k6, k7⟩ := k3.resolve_right (fun y => absurd (c2.symm.trans y.1) (by decide))
          have e1 := (show rdF B z (f + 1) S q = (false, (itF B z S r).2.1, (itF B z S r).2.2) from (if_neg hne).trans (by rw [← hr]; exact if_neg (by rw [k6]; decide))).symm.trans h
          subst c2
          show tkDn tm_147 (40, [some (.inr (.inr (6, 0, 0))), some (.inl ran), some (.inl kn), some (.inl 0)], [], (tk_so I 6 0 X2, J, R)) _
          refine dn_run 1 (show tkDn tm_147 (41, [some (.inr (.inr (6, 0, 0))), some (.inl ran), some (.inl kn), some (.inl 0)], [.inl 0], (tk_so I 6 0 X2, J, R)) _ from ?_)
          refine dn_if rfl rfl rfl (fun (c3 : ((0 : Int32) = 0 : Prop)) => ?_) (fun (c3 : (¬ (0 : Int32) = 0 : Prop)) => ?_)
          · show tkDn tm_147 (68, [some (.inr (.inr (6, 0, 0))), some (.inl ran), some (.inl kn), some (.inl 0)], [], (tk_so I 6 0 X2, J, R)) _
            exact hK0 X2 (hX.trans k1) (by rw [← e1]) (by rw [← e1]; exact k7)
          · exact absurd rfl c3
        · show tkDn tm_147 (61, [some (.inr (.inr (6, 0, 0))), some (.inl ran), some (.inl kn), some (.inl x)], [], (tk_so I 6 0 X2, J, R)) _
          obtain ⟨x1, k6, k7⟩ := k3.resolve_left (fun y => c2 y.1)
          have hl2 := hl.2.2 k6
          subst x1
          show tkDn tm_147 (61, [some (.inr (.inr (6, 0, 0))), some (.inl ran), some (.inl kn), some (.inl 1)], [], (tk_so I 6 0 X2, J, R)) _
          refine dn_run 1 (show tkDn tm_147 (62, [some (.inr (.inr (6, 0, 0))), some (.inl ran), some (.inl kn), some (.inl 1)], [.inr (.inr (6, 0, 0))], (tk_so I 6 0 X2, J, R)) _ from ?_)
          refine dn_call rfl rfl rfl rfl rfl (sm_next hz (B := B) (p := (itF B z S r).2.1) (by rw [tk_so_same]; exact (hX.trans k1).tp hB) hl.2.1 (by rw [tk_so_same]; exact k7) (fun X3 hN3 hX3 => ?_))
          rw [tk_so_so]
          rw [tk_so_same] at hX3
          have hT3 : fT X2 X3 := fT.nx (fun _ _ _ _ => rfl) hX3
          show tkDn tm_147 (65, [some (.inr (.inr (6, 0, 0))), some (.inl ran), some (.inl kn), some (.inl 1)], [], (tk_so I 6 0 X3, J, R)) _
          refine dn_run 1 (show tkDn tm_147 (40, [some (.inr (.inr (6, 0, 0))), some (.inl ran), some (.inl kn), some (.inl 1)], [], (tk_so I 6 0 X3, J, R)) _ from ?_)
          exact ih (itF B z S r).2.2 (itF B z S r).2.1 X3 hl.2.1 (by omega) (itF_wf w) (hT3.net k2) ((hX.trans k1).trans hT3.i) hN3 ((show rdF B z (f + 1) S q = rdF B z f (itF B z S r).2.2 (itF B z S r).2.1 from (if_neg hne).trans (by rw [← hr]; exact if_pos k6)).symm.trans h)
set_option maxRecDepth 8000 in
theorem WF_0 {S : tkS} : WF (0, 0, 0, S.2.2.2) := ⟨Nat.zero_le _, Nat.zero_le _, Nat.zero_le _, fun j hj => absurd hj (Nat.not_lt_zero _), fun g hg => absurd hg (Nat.not_lt_zero _), fun g h hg => absurd hg (Nat.not_lt_zero _), fun g h _ hh => absurd hh (Nat.not_lt_zero _), fun _ => 0, fun g hg => absurd hg (Nat.not_lt_zero _)⟩
/-- fields that read leaves alone in all -/
def fR (X0 X : Nat → Nat → Int32) : Prop := (∀ j, 19 ≤ j → X 0 j = X0 0 j) ∧ ∀ s, 11 ≤ s → s ≠ 20 → X s = X0 s
set_option maxRecDepth 8000 in
theorem sm_read {I : tkI} {J : tkJ} {R : Nat → Nat} {Q : tkQ} {z : Nat} {B : Nat → Int32} (hz : z ≤ 1000) (hB : TpM (I 6 0) z B) {S : tkS} (hP : NetP (I 6 0) S) (w : WF S) (hb10 : I 6 0 0 10 = 0 ∨ I 6 0 0 10 = 1) (hb11 : I 6 0 0 11 = 0 ∨ I 6 0 0 11 = 1) (hQ1 : ∀ X, (rdF B z 1001 (0, 0, 0, S.2.2.2) 0).1 = true → NetP X (rdF B z 1001 (0, 0, 0, S.2.2.2) 0).2.2 → fR (I 6 0) X → X 0 10 = 0 → X 0 11 = 0 → X 0 13 = 0 → Q (some (.inl (nI (sL (rdF B z 1001 (0, 0, 0, S.2.2.2) 0).2.2)))) (tk_so I 6 0 X, J, R)) (hQ0 : ∀ X, (rdF B z 1001 (0, 0, 0, S.2.2.2) 0).1 = false → NetP X S → fR (I 6 0) X → X 0 10 = I 6 0 0 10 → X 0 11 = I 6 0 0 11 → X 0 13 = 0 → Q (some (.inl (-20 - nI (rdF B z 1001 (0, 0, 0, S.2.2.2) 0).2.1))) (tk_so I 6 0 X, J, R)) : tkDn tm_147 (0, [some (.inr (.inr (6, 0, 0))), none, none, none], [], (I, J, R)) Q := by
  refine dn_run 7 (show tkDn tm_147 (11, [some (.inr (.inr (6, 0, 0))), some (.inl (I 6 0 0 10)), some (.inl (I 6 0 0 11)), none], [.inr (.inr (6, 0, 0))], (I, J, R)) _ from ?_)
  refine dn_call rfl rfl rfl rfl rfl (sm_keep hP w (fun r hr => ?_))
  show tkDn tm_147 (14, [some (.inr (.inr (6, 0, 0))), some (.inl (I 6 0 0 10)), some (.inl (I 6 0 0 11)), none], [], (tk_so I 6 0 (tk_u1 (I 6 0) 10 r), J, R)) _
  refine dn_run 14 (show tkDn tm_147 (36, [some (.inr (.inr (6, 0, 0))), some (.inl (I 6 0 0 10)), some (.inl (I 6 0 0 11)), some (.inl 1)], [], (tk_so (tk_so (tk_so (tk_so (tk_so I 6 0 (tk_u1 (I 6 0) 10 r)) 6 0 (tk_u2 (tk_u1 (I 6 0) 10 r) 0 0 0)) 6 0 (tk_u2 (tk_u2 (tk_u1 (I 6 0) 10 r) 0 0 0) 0 1 0)) 6 0 (tk_u2 (tk_u2 (tk_u2 (tk_u1 (I 6 0) 10 r) 0 0 0) 0 1 0) 0 2 0)) 6 0 (tk_u2 (tk_u2 (tk_u2 (tk_u2 (tk_u1 (I 6 0) 10 r) 0 0 0) 0 1 0) 0 2 0) 0 14 0), J, R)) _ from ?_)
  rw [tk_so_so, tk_so_so, tk_so_so, tk_so_so]
  obtain ⟨X1, hX1⟩ : ∃ X1, X1 = tk_u2 (tk_u2 (tk_u2 (tk_u2 (tk_u1 (I 6 0) 10 r) 0 0 0) 0 1 0) 0 2 0) 0 14 0 := ⟨_, rfl⟩
  rw [← hX1]
  show tkDn tm_147 (36, [some (.inr (.inr (6, 0, 0))), some (.inl (I 6 0 0 10)), some (.inl (I 6 0 0 11)), some (.inl 1)], [], (tk_so I 6 0 X1, J, R)) _
  have g0 : ∀ j, 3 ≤ j → j ≠ 14 → X1 0 j = I 6 0 0 j := fun j h1 h2 => by rw [hX1, tk_u2_0 (by omega), tk_u2_0 (by omega), tk_u2_0 (by omega), tk_u2_0 (by omega), tk_u1_ne (by decide)]
  have gs : ∀ s, 11 ≤ s → X1 s = I 6 0 s := fun s h1 => by rw [hX1, tk_u2_ne (by omega), tk_u2_ne (by omega), tk_u2_ne (by omega), tk_u2_ne (by omega), tk_u1_ne (by omega)]
  have g10 : X1 10 = r := by rw [hX1, tk_u2_ne (by decide), tk_u2_ne (by decide), tk_u2_ne (by decide), tk_u2_ne (by decide), tk_u1_same]
  have g14 : X1 0 14 = nI 0 := by rw [hX1, tk_u2_1]; rfl
  have gP : NetP X1 (0, 0, 0, S.2.2.2) := by
    refine ⟨?_, ?_, ?_, fun j hj => absurd hj (Nat.not_lt_zero _), fun j hj => absurd hj (Nat.not_lt_zero _)⟩
    · rw [hX1, tk_u2_0 (by decide), tk_u2_0 (by decide), tk_u2_0 (by decide), tk_u2_1]; rfl
    · rw [hX1, tk_u2_0 (by decide), tk_u2_0 (by decide), tk_u2_1]; rfl
    · rw [hX1, tk_u2_0 (by decide), tk_u2_1]; rfl
  have gB : TpM X1 z B := hB.to (g0 13 (by decide) (by decide)) (fun j => by rw [gs 13 (by decide)])
  refine dn_run 1 (show tkDn tm_147 (37, [some (.inr (.inr (6, 0, 0))), some (.inl (I 6 0 0 10)), some (.inl (I 6 0 0 11)), some (.inl 1)], [.inr (.inr (6, 0, 0))], (tk_so I 6 0 X1, J, R)) _ from ?_)
  refine dn_call rfl rfl rfl rfl rfl (sm_next hz (B := B) (p := 0) (by rw [tk_so_same]; exact gB) (Nat.zero_le _) (by rw [tk_so_same]; exact g14) (fun X2 hN2 hX2 => ?_))
  rw [tk_so_so]
  rw [tk_so_same] at hX2
  have hT2 : fT X1 X2 := fT.nx (fun _ _ _ _ => rfl) hX2
  show tkDn tm_147 (40, [some (.inr (.inr (6, 0, 0))), some (.inl (I 6 0 0 10)), some (.inl (I 6 0 0 11)), some (.inl 1)], [], (tk_so I 6 0 X2, J, R)) _
  refine sm_rd_loop hz (X0 := X1) gB (S0 := (0, 0, 0, S.2.2.2)) (fun X hX hPX h1 => ?_) (fun X hX h1 h18 => ?_) 1001 (0, 0, 0, S.2.2.2) 0 X2 (Nat.zero_le _) (by omega) WF_0 (hT2.net gP) hT2.i hN2 rfl
  · show tkDn tm_147 (68, [some (.inr (.inr (6, 0, 0))), some (.inl (I 6 0 0 10)), some (.inl (I 6 0 0 11)), some (.inl 1)], [], (tk_so I 6 0 X, J, R)) _
    refine dn_run 4 (show tkDn tm_147 (74, [some (.inr (.inr (6, 0, 0))), some (.inl (I 6 0 0 10)), some (.inl (I 6 0 0 11)), some (.inl 1)], [.inl 1], (tk_so (tk_so I 6 0 X) 6 0 (tk_u2 X 0 13 0), J, R)) _ from ?_)
    rw [tk_so_so]
    refine dn_if rfl rfl rfl (fun (d0 : (¬ (1 : Int32) = 0 : Prop)) => ?_) (fun (d0 : ((1 : Int32) = 0 : Prop)) => ?_)
    · show tkDn tm_147 (99, [some (.inr (.inr (6, 0, 0))), some (.inl (I 6 0 0 10)), some (.inl (I 6 0 0 11)), some (.inl 1)], [], (tk_so I 6 0 (tk_u2 X 0 13 0), J, R)) _
      refine dn_run 1 (show tkDn tm_147 (100, [some (.inr (.inr (6, 0, 0))), some (.inl (I 6 0 0 10)), some (.inl (I 6 0 0 11)), some (.inl 1)], [.inr (.inr (6, 0, 0))], (tk_so I 6 0 (tk_u2 X 0 13 0), J, R)) _ from ?_)
      refine dn_call rfl rfl rfl rfl rfl ?_
      show tkDn tm_127 (0, [some (.inr (.inr (6, 0, 0)))], [], (tk_so I 6 0 (tk_u2 X 0 13 0), J, R)) _
      refine dn_run 6 (show (0 = 0 ∨ 0 = 1) ∧ (0 = 0 ∨ 0 = 1) ∧ tkDn tm_127 (10, [some (.inr (.inr (6, 0, 0)))], [], (tk_so (tk_so (tk_so I 6 0 (tk_u2 X 0 13 0)) 6 0 (tk_u2 (tk_u2 X 0 13 0) 0 10 0)) 6 0 (tk_u2 (tk_u2 (tk_u2 X 0 13 0) 0 10 0) 0 11 0), J, R)) _ from ⟨Or.inl rfl, Or.inl rfl, ?_⟩)
      rw [tk_so_so, tk_so_so]
      refine dn_ret0 rfl rfl rfl rfl ?_
      show tkDn tm_147 (103, [some (.inr (.inr (6, 0, 0))), some (.inl (I 6 0 0 10)), some (.inl (I 6 0 0 11)), some (.inl 1)], [], (tk_so I 6 0 (tk_u2 (tk_u2 (tk_u2 X 0 13 0) 0 10 0) 0 11 0), J, R)) _
      refine dn_run 2 (show tkDn tm_147 (107, [some (.inr (.inr (6, 0, 0))), some (.inl (I 6 0 0 10)), some (.inl (I 6 0 0 11)), some (.inl 1)], [.inl (X 0 1)], (tk_so I 6 0 (tk_u2 (tk_u2 (tk_u2 X 0 13 0) 0 10 0) 0 11 0), J, R)) _ from ?_)
      rw [show X 0 1 = nI (sL (rdF B z 1001 (0, 0, 0, S.2.2.2) 0).2.2) from hPX.2.1]
      refine dn_ret0 rfl rfl rfl rfl ?_
      refine hQ1 _ h1 (NetP_to hPX (fun k hk => by rw [tk_u2_0 (by omega), tk_u2_0 (by omega), tk_u2_0 (by omega)]) (fun s h4 h9 => by rw [tk_u2_ne (by omega), tk_u2_ne (by omega), tk_u2_ne (by omega)])) ⟨fun j hj => ?_, fun s hs h20 => ?_⟩ (by rw [tk_u2_0 (by decide), tk_u2_1]) (by rw [tk_u2_1]) (by rw [tk_u2_0 (by decide), tk_u2_0 (by decide), tk_u2_1])
      · rw [tk_u2_0 (by omega), tk_u2_0 (by omega), tk_u2_0 (by omega), hX.1 j (by omega) (by omega) (by omega) (by omega)]; exact g0 j (by omega) (by omega)
      · rw [tk_u2_ne (by omega), tk_u2_ne (by omega), tk_u2_ne (by omega), hX.2 s (by omega) h20]; exact gs s hs
    · exact absurd d0 (by decide)
  · show tkDn tm_147 (68, [some (.inr (.inr (6, 0, 0))), some (.inl (I 6 0 0 10)), some (.inl (I 6 0 0 11)), some (.inl 0)], [], (tk_so I 6 0 X, J, R)) _
    refine dn_run 4 (show tkDn tm_147 (74, [some (.inr (.inr (6, 0, 0))), some (.inl (I 6 0 0 10)), some (.inl (I 6 0 0 11)), some (.inl 0)], [.inl 0], (tk_so (tk_so I 6 0 X) 6 0 (tk_u2 X 0 13 0), J, R)) _ from ?_)
    rw [tk_so_so]
    refine dn_if rfl rfl rfl (fun (d0 : (¬ (0 : Int32) = 0 : Prop)) => ?_) (fun (d0 : ((0 : Int32) = 0 : Prop)) => ?_)
    · exact absurd rfl d0
    · show tkDn tm_147 (77, [some (.inr (.inr (6, 0, 0))), some (.inl (I 6 0 0 10)), some (.inl (I 6 0 0 11)), some (.inl 0)], [], (tk_so I 6 0 (tk_u2 X 0 13 0), J, R)) _
      refine dn_run 1 (show tkDn tm_147 (78, [some (.inr (.inr (6, 0, 0))), some (.inl (I 6 0 0 10)), some (.inl (I 6 0 0 11)), some (.inl 0)], [.inr (.inr (6, 0, 0))], (tk_so I 6 0 (tk_u2 X 0 13 0), J, R)) _ from ?_)
      refine dn_call rfl rfl rfl rfl rfl (sm_bringBack w (X0 := tk_u2 X 0 13 0) (by rw [tk_u2_ne (by decide), hX.2 10 (by decide) (by decide), g10]; exact hr) (fun X4 hf4 hP4 => ?_))
      show tkDn tm_147 (81, [some (.inr (.inr (6, 0, 0))), some (.inl (I 6 0 0 10)), some (.inl (I 6 0 0 11)), some (.inl 0)], [], (tk_so I 6 0 X4, J, R)) _
      refine dn_run 10 (show ((I 6 0 0 10) = 0 ∨ (I 6 0 0 10) = 1) ∧ ((I 6 0 0 11) = 0 ∨ (I 6 0 0 11) = 1) ∧ tkDn tm_147 (98, [some (.inr (.inr (6, 0, 0))), some (.inl (I 6 0 0 10)), some (.inl (I 6 0 0 11)), some (.inl 0)], [.inl ((-20) - (X4 0 18))], (tk_so (tk_so (tk_so I 6 0 X4) 6 0 (tk_u2 X4 0 10 (I 6 0 0 10))) 6 0 (tk_u2 (tk_u2 X4 0 10 (I 6 0 0 10)) 0 11 (I 6 0 0 11)), J, R)) _ from ⟨hb10, hb11, ?_⟩)
      rw [tk_so_so, tk_so_so]
      rw [show X4 0 18 = nI (rdF B z 1001 (0, 0, 0, S.2.2.2) 0).2.1 by rw [hf4.1 18 (by decide), tk_u2_0 (by decide)]; exact h18]
      refine dn_ret0 rfl rfl rfl rfl ?_
      refine hQ0 _ h1 (NetP_to hP4 (fun k hk => by rw [tk_u2_0 (by omega), tk_u2_0 (by omega)]) (fun s h4 h9 => by rw [tk_u2_ne (by omega), tk_u2_ne (by omega)])) ⟨fun j hj => ?_, fun s hs h20 => ?_⟩ (by rw [tk_u2_0 (by decide), tk_u2_1]) (by rw [tk_u2_1]) (by rw [tk_u2_0 (by decide), tk_u2_0 (by decide), hf4.1 13 (by decide), tk_u2_1])
      · rw [tk_u2_0 (by omega), tk_u2_0 (by omega), hf4.1 j (by omega), tk_u2_0 (by omega), hX.1 j (by omega) (by omega) (by omega) (by omega)]; exact g0 j (by omega) (by omega)
      · rw [tk_u2_ne (by omega), tk_u2_ne (by omega), hf4.2 s (by omega), tk_u2_ne (by omega), hX.2 s (by omega) h20]; exact gs s hs
set_option maxRecDepth 8000 in
theorem sm_trim {I : tkI} {J : tkJ} {R : Nat → Nat} {Q : tkQ} {z : Nat} (h13 : I 6 0 0 13 = nI z) {u : Int32} (hQ0 : ¬ (0 ≤ u ∧ u ≤ nI z) → Q (some (.inl (-12))) (I, J, R)) (hQ1 : (0 ≤ u ∧ u ≤ nI z) → Q (some (.inl u)) (tk_so I 6 0 (tk_u2 (I 6 0) 0 13 u), J, R)) : tkDn tm_140 (0, [some (.inr (.inr (6, 0, 0))), some (.inl u)], [], (I, J, R)) Q := by
  refine dn_run 4 (show tkDn tm_140 (6, [some (.inr (.inr (6, 0, 0))), some (.inl u)], [.inl (I 6 0 0 13), .inl 0, .inl u], (I, J, R)) _ from ?_)
  rw [h13]
  show tkDn tm_140 (6, [some (.inr (.inr (6, 0, 0))), some (.inl u)], [.inl (nI z), .inl 0, .inl u], (I, J, R)) _
  refine dn_call rfl rfl rfl rfl rfl (sm_in ?_)
  show tkDn tm_140 (9, [some (.inr (.inr (6, 0, 0))), some (.inl u)], [.inl (if 0 ≤ u ∧ u ≤ nI z then 1 else 0)], (I, J, R)) _
  refine dn_if rfl rfl rfl (fun (c0 : ¬ (if 0 ≤ u ∧ u ≤ nI z then 1 else 0) = 0) => ?_) (fun (c0 : (if 0 ≤ u ∧ u ≤ nI z then 1 else 0) = 0) => ?_)
  · show tkDn tm_140 (15, [some (.inr (.inr (6, 0, 0))), some (.inl u)], [], (I, J, R)) _
    have c0 := Classical.byContradiction fun z => c0 (if_neg z)
    refine dn_run 4 (show tkDn tm_140 (21, [some (.inr (.inr (6, 0, 0))), some (.inl u)], [.inl u], (tk_so I 6 0 (tk_u2 (I 6 0) 0 13 u), J, R)) _ from ?_)
    refine dn_ret0 rfl rfl rfl rfl ?_
    exact hQ1 c0
  · show tkDn tm_140 (12, [some (.inr (.inr (6, 0, 0))), some (.inl u)], [], (I, J, R)) _
    refine dn_run 1 (show tkDn tm_140 (14, [some (.inr (.inr (6, 0, 0))), some (.inl u)], [.inl (-12)], (I, J, R)) _ from ?_)
    refine dn_ret0 rfl rfl rfl rfl ?_
    exact hQ0 (fun q => absurd (c0.symm.trans (if_pos q)) (by decide))
set_option maxRecDepth 8000 in
theorem shf_d : ∀ r, r < 4 → shf r / 8 = nI (3 - r) := by decide
set_option maxRecDepth 8000 in
theorem ix_fd {z r : Nat} (h : r < 4) : nI z + 3 - shf r / 8 = nI (z + r) := by
  rw [shf_d r h, show (3 : Int32) = nI 3 from rfl, nI_add, show z + 3 = (z + r) + (3 - r) by omega, ← nI_add, Int32.add_sub_cancel]
set_option maxRecDepth 8000 in
theorem sm_fd_loop {I : tkI} {J : tkJ} {R : Nat → Nat} {Q : tkQ} {z : Nat} (hz : z + 20 ≤ 1000) {a b c d e : Int32} {X0 : Nat → Nat → Int32} (h13 : X0 0 13 = nI z) (hK : ∀ X o7, (∀ q, q < 5 → ∀ i, i < 4 → X 13 (z + 4 * q + i) = byF (fdA a b c d e q) i) → ((∀ j, j < z → X 13 j = X0 13 j) ∧ ∀ s j, s ≠ 13 → X s j = X0 s j) → tkDn tm_139 (118, [some (.inr (.inr (6, 0, 0))), some (.inl a), some (.inl b), some (.inl c), some (.inl d), some (.inl e), some (.inl (shf 4)), o7], [], (tk_so I 6 0 X, J, R)) Q) : ∀ m r X o7, r + m = 4 → (∀ q, q < 5 → ∀ i, i < r → X 13 (z + 4 * q + i) = byF (fdA a b c d e q) i) → ((∀ j, j < z → X 13 j = X0 13 j) ∧ ∀ s j, s ≠ 13 → X s j = X0 s j) → tkDn tm_139 (20, [some (.inr (.inr (6, 0, 0))), some (.inl a), some (.inl b), some (.inl c), some (.inl d), some (.inl e), some (.inl (shf r)), o7], [], (tk_so I 6 0 X, J, R)) Q := by
  intro m
  induction m with
  | zero =>
    intro r X o7 hr h1 h0
    have hr : r = 4 := by omega
    subst hr
    show tkDn tm_139 (20, [some (.inr (.inr (6, 0, 0))), some (.inl a), some (.inl b), some (.inl c), some (.inl d), some (.inl e), some (.inl (shf 4)), o7], [], (tk_so I 6 0 X, J, R)) _
    refine dn_run 1 (show tkDn tm_139 (22, [some (.inr (.inr (6, 0, 0))), some (.inl a), some (.inl b), some (.inl c), some (.inl d), some (.inl e), some (.inl (shf 4)), o7], [.inl (shf 4)], (tk_so I 6 0 X, J, R)) _ from ?_)
    refine dn_if rfl rfl rfl (fun (c0 : (shf 4) < 0) => ?_) (fun (c0 : ¬ (shf 4) < 0) => ?_)
    · show tkDn tm_139 (118, [some (.inr (.inr (6, 0, 0))), some (.inl a), some (.inl b), some (.inl c), some (.inl d), some (.inl e), some (.inl (shf 4)), o7], [], (tk_so I 6 0 X, J, R)) _
      exact hK X _ h1 h0
    · exact absurd (by decide) c0
  | succ m ih =>
    intro r X o7 hr h1 h0
    have hs : X 0 13 = nI z := (h0.2 0 13 (by decide)).trans h13
    show tkDn tm_139 (20, [some (.inr (.inr (6, 0, 0))), some (.inl a), some (.inl b), some (.inl c), some (.inl d), some (.inl e), some (.inl (shf r)), o7], [], (tk_so I 6 0 X, J, R)) _
    refine dn_run 1 (show tkDn tm_139 (22, [some (.inr (.inr (6, 0, 0))), some (.inl a), some (.inl b), some (.inl c), some (.inl d), some (.inl e), some (.inl (shf r)), o7], [.inl (shf r)], (tk_so I 6 0 X, J, R)) _ from ?_)
    refine dn_if rfl rfl rfl (fun (c0 : (shf r) < 0) => ?_) (fun (c0 : ¬ (shf r) < 0) => ?_)
    · exact absurd c0 (shf_pos r (by omega))
    · show tkDn tm_139 (25, [some (.inr (.inr (6, 0, 0))), some (.inl a), some (.inl b), some (.inl c), some (.inl d), some (.inl e), some (.inl (shf r)), o7], [], (tk_so I 6 0 X, J, R)) _
      refine dn_run 9 (show (¬ 8 = 0) ∧ tkDn tm_139 (39, [some (.inr (.inr (6, 0, 0))), some (.inl a), some (.inl b), some (.inl c), some (.inl d), some (.inl e), some (.inl (shf r)), some (.inl (((X 0 13) + 3) - ((shf r) / 8)))], [], (tk_so I 6 0 X, J, R)) _ from ⟨by decide, ?_⟩)
      rw [hs, ix_fd (by omega)]
      show tkDn tm_139 (39, [some (.inr (.inr (6, 0, 0))), some (.inl a), some (.inl b), some (.inl c), some (.inl d), some (.inl e), some (.inl (shf r)), some (.inl (nI (z + r)))], [], (tk_so I 6 0 X, J, R)) _
      refine dn_run 50 (show (vp_in (nI (z + r)) 1000) ∧ (vp_in ((nI (z + r)) + 4) 1000) ∧ (vp_in ((nI (z + r)) + 8) 1000) ∧ (vp_in ((nI (z + r)) + 12) 1000) ∧ (vp_in ((nI (z + r)) + 16) 1000) ∧ tkDn tm_139 (20, [some (.inr (.inr (6, 0, 0))), some (.inl a), some (.inl b), some (.inl c), some (.inl d), some (.inl e), some (.inl ((shf r) + (-8))), some (.inl (nI (z + r)))], [], (tk_so (tk_so (tk_so (tk_so (tk_so (tk_so I 6 0 X) 6 0 (tk_u2 X 13 ((nI (z + r)).toNatClampNeg) (vp_nar .byte (((a >>> ((shf r) &&& 31)) : Int32).toInt8.toInt32)))) 6 0 (tk_u2 (tk_u2 X 13 ((nI (z + r)).toNatClampNeg) (vp_nar .byte (((a >>> ((shf r) &&& 31)) : Int32).toInt8.toInt32))) 13 (((nI (z + r)) + 4).toNatClampNeg) (vp_nar .byte (((b >>> ((shf r) &&& 31)) : Int32).toInt8.toInt32)))) 6 0 (tk_u2 (tk_u2 (tk_u2 X 13 ((nI (z + r)).toNatClampNeg) (vp_nar .byte (((a >>> ((shf r) &&& 31)) : Int32).toInt8.toInt32))) 13 (((nI (z + r)) + 4).toNatClampNeg) (vp_nar .byte (((b >>> ((shf r) &&& 31)) : Int32).toInt8.toInt32))) 13 (((nI (z + r)) + 8).toNatClampNeg) (vp_nar .byte (((c >>> ((shf r) &&& 31)) : Int32).toInt8.toInt32)))) 6 0 (tk_u2 (tk_u2 (tk_u2 (tk_u2 X 13 ((nI (z + r)).toNatClampNeg) (vp_nar .byte (((a >>> ((shf r) &&& 31)) : Int32).toInt8.toInt32))) 13 (((nI (z + r)) + 4).toNatClampNeg) (vp_nar .byte (((b >>> ((shf r) &&& 31)) : Int32).toInt8.toInt32))) 13 (((nI (z + r)) + 8).toNatClampNeg) (vp_nar .byte (((c >>> ((shf r) &&& 31)) : Int32).toInt8.toInt32))) 13 (((nI (z + r)) + 12).toNatClampNeg) (vp_nar .byte (((d >>> ((shf r) &&& 31)) : Int32).toInt8.toInt32)))) 6 0 (tk_u2 (tk_u2 (tk_u2 (tk_u2 (tk_u2 X 13 ((nI (z + r)).toNatClampNeg) (vp_nar .byte (((a >>> ((shf r) &&& 31)) : Int32).toInt8.toInt32))) 13 (((nI (z + r)) + 4).toNatClampNeg) (vp_nar .byte (((b >>> ((shf r) &&& 31)) : Int32).toInt8.toInt32))) 13 (((nI (z + r)) + 8).toNatClampNeg) (vp_nar .byte (((c >>> ((shf r) &&& 31)) : Int32).toInt8.toInt32))) 13 (((nI (z + r)) + 12).toNatClampNeg) (vp_nar .byte (((d >>> ((shf r) &&& 31)) : Int32).toInt8.toInt32))) 13 (((nI (z + r)) + 16).toNatClampNeg) (vp_nar .byte (((e >>> ((shf r) &&& 31)) : Int32).toInt8.toInt32))), J, R)) _ from ⟨vp_in_nI (by omega) (by omega), by rw [show (4 : Int32) = nI 4 from rfl, nI_add]; exact vp_in_nI (by omega) (by omega), by rw [show (8 : Int32) = nI 8 from rfl, nI_add]; exact vp_in_nI (by omega) (by omega), by rw [show (12 : Int32) = nI 12 from rfl, nI_add]; exact vp_in_nI (by omega) (by omega), by rw [show (16 : Int32) = nI 16 from rfl, nI_add]; exact vp_in_nI (by omega) (by omega), ?_⟩)
      rw [tk_so_so, tk_so_so, tk_so_so, tk_so_so, tk_so_so]
      rw [show nI (z + r) + 4 = nI (z + r + 4) from nI_add _ 4, nI_clamp (show z + r + 4 < 2 ^ 31 by omega)]
      rw [show nI (z + r) + 8 = nI (z + r + 8) from nI_add _ 8, nI_clamp (show z + r + 8 < 2 ^ 31 by omega)]
      rw [show nI (z + r) + 12 = nI (z + r + 12) from nI_add _ 12, nI_clamp (show z + r + 12 < 2 ^ 31 by omega)]
      rw [show nI (z + r) + 16 = nI (z + r + 16) from nI_add _ 16, nI_clamp (show z + r + 16 < 2 ^ 31 by omega)]
      rw [nI_clamp (show z + r < 2 ^ 31 by omega), shf_s r (by omega)]
      refine ih (r + 1) _ _ (by omega) (fun q hq i hi => ?_) ⟨fun j hj => ?_, fun s j hsj => ?_⟩
      · by_cases z1 : i = r
        · subst z1
          rcases Nat.lt_or_ge q 1 with h | h
          · have hq0 : q = 0 := by omega
            subst hq0
            rw [tk_u2_0 (by omega), tk_u2_0 (by omega), tk_u2_0 (by omega), tk_u2_0 (by omega), show z + 4 * 0 + i = z + i by omega, tk_u2_1]; rfl
          rcases Nat.lt_or_ge q 2 with h | h
          · have hq0 : q = 1 := by omega
            subst hq0
            rw [tk_u2_0 (by omega), tk_u2_0 (by omega), tk_u2_0 (by omega), show z + 4 * 1 + i = z + i + 4 by omega, tk_u2_1]; rfl
          rcases Nat.lt_or_ge q 3 with h | h
          · have hq0 : q = 2 := by omega
            subst hq0
            rw [tk_u2_0 (by omega), tk_u2_0 (by omega), show z + 4 * 2 + i = z + i + 8 by omega, tk_u2_1]; rfl
          rcases Nat.lt_or_ge q 4 with h | h
          · have hq0 : q = 3 := by omega
            subst hq0
            rw [tk_u2_0 (by omega), show z + 4 * 3 + i = z + i + 12 by omega, tk_u2_1]; rfl
          have hq0 : q = 4 := by omega
          subst hq0
          rw [show z + 4 * 4 + i = z + i + 16 by omega, tk_u2_1]; rfl
        · rw [tk_u2_0 (by omega), tk_u2_0 (by omega), tk_u2_0 (by omega), tk_u2_0 (by omega), tk_u2_0 (by omega)]; exact h1 q hq i (by omega)
      · rw [tk_u2_0 (by omega), tk_u2_0 (by omega), tk_u2_0 (by omega), tk_u2_0 (by omega), tk_u2_0 (by omega)]; exact h0.1 j hj
      · rw [tk_u2_ne hsj, tk_u2_ne hsj, tk_u2_ne hsj, tk_u2_ne hsj, tk_u2_ne hsj]; exact h0.2 s j hsj
set_option maxRecDepth 8000 in
theorem sm_feed {I : tkI} {J : tkJ} {R : Nat → Nat} {Q : tkQ} {z : Nat} (hz0 : z ≤ 1000) {B : Nat → Int32} (h13 : I 6 0 0 13 = nI z) (hB : ∀ j, j < z → I 6 0 13 j = B j) {a b c d e : Int32} (hQ0 : ¬ z + 20 ≤ 1000 → Q (some (.inl (-14))) (I, J, R)) (hQ1 : z + 20 ≤ 1000 → ∀ X, TpM X (z + 20) (fdF B z a b c d e) → (∀ s j, s ≠ 13 → ¬ (s = 0 ∧ j = 13) → X s j = I 6 0 s j) → Q (some (.inl (nI (z + 20)))) (tk_so I 6 0 X, J, R)) : tkDn tm_139 (0, [some (.inr (.inr (6, 0, 0))), some (.inl a), some (.inl b), some (.inl c), some (.inl d), some (.inl e), none, none], [], (I, J, R)) Q := by
  refine dn_run 5 (show tkDn tm_139 (10, [some (.inr (.inr (6, 0, 0))), some (.inl a), some (.inl b), some (.inl c), some (.inl d), some (.inl e), none, none], [.inl 1000, .inl ((I 6 0 0 13) + 20)], (I, J, R)) _ from ?_)
  rw [h13, show nI z + 20 = nI (z + 20) from nI_add _ 20]
  show tkDn tm_139 (10, [some (.inr (.inr (6, 0, 0))), some (.inl a), some (.inl b), some (.inl c), some (.inl d), some (.inl e), none, none], [.inl 1000, .inl (nI (z + 20))], (I, J, R)) _
  refine dn_if rfl rfl rfl (fun (c0 : (nI (z + 20)) ≤ 1000) => ?_) (fun (c0 : ¬ (nI (z + 20)) ≤ 1000) => ?_)
  · show tkDn tm_139 (16, [some (.inr (.inr (6, 0, 0))), some (.inl a), some (.inl b), some (.inl c), some (.inl d), some (.inl e), none, none], [], (I, J, R)) _
    have hz : z + 20 ≤ 1000 := (nI_leI (by omega) (b := 1000) (by omega)).mp c0
    refine dn_run 2 (show tkDn tm_139 (20, [some (.inr (.inr (6, 0, 0))), some (.inl a), some (.inl b), some (.inl c), some (.inl d), some (.inl e), some (.inl 24), none], [], (I, J, R)) _ from ?_)
    have key := sm_fd_loop (I := I) (J := J) (R := R) (Q := Q) hz (a := a) (b := b) (c := c) (d := d) (e := e) (X0 := I 6 0) h13 (fun X o7 h1 h0 => ?_) 4 0 (I 6 0) none rfl (fun q hq i hi => absurd hi (Nat.not_lt_zero _)) ⟨fun _ _ => rfl, fun _ _ _ => rfl⟩
    · rw [tk_so_id] at key; exact key
    show tkDn tm_139 (118, [some (.inr (.inr (6, 0, 0))), some (.inl a), some (.inl b), some (.inl c), some (.inl d), some (.inl e), some (.inl (shf 4)), o7], [], (tk_so I 6 0 X, J, R)) _
    refine dn_run 8 (show tkDn tm_139 (133, [some (.inr (.inr (6, 0, 0))), some (.inl a), some (.inl b), some (.inl c), some (.inl d), some (.inl e), some (.inl (shf 4)), o7], [.inl ((X 0 13) + 20)], (tk_so (tk_so I 6 0 X) 6 0 (tk_u2 X 0 13 ((X 0 13) + 20)), J, R)) _ from ?_)
    rw [tk_so_so]
    rw [(h0.2 0 13 (by decide)).trans h13, show nI z + 20 = nI (z + 20) from nI_add _ 20]
    refine dn_ret0 rfl rfl rfl rfl ?_
    refine hQ1 hz _ ⟨by rw [tk_u2_1], fun j hj => ?_⟩ (fun s j h2 h3 => by rw [tk_u2_0 h3]; exact h0.2 s j h2)
    rw [tk_u2_ne (by decide)]
    unfold fdF
    by_cases q : j < z
    · rw [if_pos q, h0.1 j q]; exact hB j q
    · rw [if_neg q]
      have := h1 ((j - z) / 4) (by omega) ((j - z) % 4) (by omega)
      rw [show z + 4 * ((j - z) / 4) + (j - z) % 4 = j by omega] at this
      exact this
  · show tkDn tm_139 (13, [some (.inr (.inr (6, 0, 0))), some (.inl a), some (.inl b), some (.inl c), some (.inl d), some (.inl e), none, none], [], (I, J, R)) _
    refine dn_run 1 (show tkDn tm_139 (15, [some (.inr (.inr (6, 0, 0))), some (.inl a), some (.inl b), some (.inl c), some (.inl d), some (.inl e), none, none], [.inl (-14)], (I, J, R)) _ from ?_)
    refine dn_ret0 rfl rfl rfl rfl ?_
    exact hQ0 (fun q => c0 (nI_le (b := 1000) q (by omega)))
