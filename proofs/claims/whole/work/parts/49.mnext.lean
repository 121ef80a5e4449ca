/-! the reference: next -/
def TpM (X : Nat → Nat → Int32) (z : Nat) (B : Nat → Int32) : Prop := X 0 13 = nI z ∧ ∀ j, j < z → X 13 j = B j
set_option maxRecDepth 8000 in
theorem TpM.to {X Y : Nat → Nat → Int32} {z : Nat} {B : Nat → Int32} (h : TpM X z B) (h1 : Y 0 13 = X 0 13) (h2 : ∀ j, Y 13 j = X 13 j) : TpM Y z B := ⟨h1.trans h.1, fun j hj => (h2 j).trans (h.2 j hj)⟩
set_option maxRecDepth 8000 in
theorem TpM.u {X : Nat → Nat → Int32} {z : Nat} {B : Nat → Int32} (h : TpM X z B) {s k : Nat} {x : Int32} (hs : s ≠ 13) (hk : ¬ (s = 0 ∧ k = 13)) : TpM (tk_u2 X s k x) z B := h.to (tk_u2_0 (by omega)) (fun j => by rw [tk_u2_ne (by omega)])
abbrev fgP (B : Nat → Int32) (z p : Nat) : Prop := p < z ∧ 48 ≤ B p ∧ B p ≤ 57
abbrev ltP (c : Int32) : Prop := c = 109 ∨ c = 119 ∨ c = 103 ∨ c = 59
/-- what next leaves, having found a token at r -/
def NxP (B : Nat → Int32) (z r : Nat) (X : Nat → Nat → Int32) : Prop := X 0 16 = nI r ∧ ((r = z ∧ X 0 15 = -1) ∨ (r < z ∧ ∃ v q, tkN B z r = some (v, q) ∧ X 0 15 = -3 ∧ X 0 17 = v ∧ X 0 14 = nI q) ∨ (r < z ∧ tkN B z r = none ∧ ltP (B r) ∧ X 0 15 = B r ∧ X 0 14 = nI (r + 1)) ∨ (r < z ∧ tkN B z r = none ∧ ¬ ltP (B r) ∧ X 0 15 = -2))
set_option maxRecDepth 8000 in
theorem dg0 {B : Nat → Int32} {z p : Nat} (hp : p ≤ z) (h : ¬ fgP B z p) : (dgF B (z - p) p 0 0).2.1 = 0 := by
  rcases Nat.lt_or_ge p z with q | q
  · obtain ⟨n, hn⟩ : ∃ n, z - p = n + 1 := ⟨z - p - 1, by omega⟩
    rw [hn]
    unfold dgF
    rw [if_neg (fun y => h ⟨q, y⟩)]
  · rw [show z - p = 0 by omega]; rfl
set_option maxRecDepth 8000 in
theorem dg1 {B : Nat → Int32} {z p : Nat} (h : fgP B z p) : 1 ≤ (dgF B (z - p) p 0 0).2.1 := by
  obtain ⟨n, hn⟩ : ∃ n, z - p = n + 1 := ⟨z - p - 1, by have := h.1; omega⟩
  rw [hn]
  unfold dgF
  rw [if_pos h.2]
  have := dgF_le (B := B) n (p + 1) (0 + 1) (if 0 < 6 then 0 * 10 + (B p - 48) else 0)
  omega
set_option maxRecDepth 8000 in
theorem tkN_no {B : Nat → Int32} {z r : Nat} (hr : r < z) (h1 : ¬ (B r = 45 ∧ fgP B z (r + 1))) (h2 : ¬ fgP B z r) : tkN B z r = none := by
  refine if_pos (Or.inl ?_)
  unfold nbD
  by_cases s : sgP B z r
  · rw [show nbP B z r = r + 1 from if_pos s]
    exact dg0 (by omega) (fun q => h1 ⟨s.2, q⟩)
  · rw [show nbP B z r = r from if_neg s]
    exact dg0 (by omega) h2
set_option maxRecDepth 8000 in
theorem sm_isFigure {I : tkI} {J : tkJ} {R : Nat → Nat} {Q : tkQ} {z : Nat} {B : Nat → Int32} (hz : z ≤ 1000) (hB : TpM (I 6 0) z B) {p : Nat} (hp : p ≤ 1000) (hQ : Q (some (.inl (if fgP B z p then 1 else 0))) (I, J, R)) : tkDn tm_141 (0, [some (.inr (.inr (6, 0, 0))), some (.inl (nI p))], [], (I, J, R)) Q := by
  obtain ⟨h2, h1⟩ := hB
  refine dn_run 3 (show tkDn tm_141 (5, [some (.inr (.inr (6, 0, 0))), some (.inl (nI p))], [.inl (I 6 0 0 13), .inl (nI p)], (I, J, R)) _ from ?_)
  rw [h2]
  show tkDn tm_141 (5, [some (.inr (.inr (6, 0, 0))), some (.inl (nI p))], [.inl (nI z), .inl (nI p)], (I, J, R)) _
  refine dn_if rfl rfl rfl (fun (c0 : (nI z) ≤ (nI p)) => ?_) (fun (c0 : ¬ (nI z) ≤ (nI p)) => ?_)
  · show tkDn tm_141 (34, [some (.inr (.inr (6, 0, 0))), some (.inl (nI p))], [], (I, J, R)) _
    refine dn_run 1 (show tkDn tm_141 (35, [some (.inr (.inr (6, 0, 0))), some (.inl (nI p))], [.inl 0], (I, J, R)) _ from ?_)
    refine dn_retb rfl rfl rfl rfl (by decide) ?_
    rw [if_neg (fun q => absurd c0 (nI_ge q.1 (by omega)))] at hQ; exact hQ
  · show tkDn tm_141 (8, [some (.inr (.inr (6, 0, 0))), some (.inl (nI p))], [], (I, J, R)) _
    have hlt : p < z := Nat.not_le.mp (fun q => c0 (nI_le q (by omega)))
    refine dn_run 5 (show (vp_in (nI p) 1000) ∧ tkDn tm_141 (16, [some (.inr (.inr (6, 0, 0))), some (.inl (nI p))], [.inl 48, .inl (I 6 0 13 ((nI p).toNatClampNeg))], (I, J, R)) _ from ⟨vp_in_nI (by omega) (by omega), ?_⟩)
    rw [nI_clamp (show p < 2 ^ 31 by omega), h1 p hlt]
    show tkDn tm_141 (16, [some (.inr (.inr (6, 0, 0))), some (.inl (nI p))], [.inl 48, .inl (B p)], (I, J, R)) _
    refine dn_if rfl rfl rfl (fun (c1 : (B p) < 48) => ?_) (fun (c1 : ¬ (B p) < 48) => ?_)
    · show tkDn tm_141 (34, [some (.inr (.inr (6, 0, 0))), some (.inl (nI p))], [], (I, J, R)) _
      refine dn_run 1 (show tkDn tm_141 (35, [some (.inr (.inr (6, 0, 0))), some (.inl (nI p))], [.inl 0], (I, J, R)) _ from ?_)
      refine dn_retb rfl rfl rfl rfl (by decide) ?_
      rw [if_neg (fun q => absurd c1 (Int32.not_lt.mpr q.2.1))] at hQ; exact hQ
    · show tkDn tm_141 (19, [some (.inr (.inr (6, 0, 0))), some (.inl (nI p))], [], (I, J, R)) _
      refine dn_run 5 (show (vp_in (nI p) 1000) ∧ tkDn tm_141 (27, [some (.inr (.inr (6, 0, 0))), some (.inl (nI p))], [.inl 57, .inl (I 6 0 13 ((nI p).toNatClampNeg))], (I, J, R)) _ from ⟨vp_in_nI (by omega) (by omega), ?_⟩)
      rw [nI_clamp (show p < 2 ^ 31 by omega), h1 p hlt]
      show tkDn tm_141 (27, [some (.inr (.inr (6, 0, 0))), some (.inl (nI p))], [.inl 57, .inl (B p)], (I, J, R)) _
      refine dn_if rfl rfl rfl (fun (c2 : 57 < (B p)) => ?_) (fun (c2 : ¬ 57 < (B p)) => ?_)
      · show tkDn tm_141 (34, [some (.inr (.inr (6, 0, 0))), some (.inl (nI p))], [], (I, J, R)) _
        refine dn_run 1 (show tkDn tm_141 (35, [some (.inr (.inr (6, 0, 0))), some (.inl (nI p))], [.inl 0], (I, J, R)) _ from ?_)
        refine dn_retb rfl rfl rfl rfl (by decide) ?_
        rw [if_neg (fun q => absurd c2 (Int32.not_lt.mpr q.2.2))] at hQ; exact hQ
      · show tkDn tm_141 (30, [some (.inr (.inr (6, 0, 0))), some (.inl (nI p))], [], (I, J, R)) _
        refine dn_run 2 (show tkDn tm_141 (35, [some (.inr (.inr (6, 0, 0))), some (.inl (nI p))], [.inl 1], (I, J, R)) _ from ?_)
        refine dn_retb rfl rfl rfl rfl (by decide) ?_
        rw [if_pos ⟨hlt, Int32.not_lt.mp c1, Int32.not_lt.mp c2⟩] at hQ; exact hQ
set_option maxRecDepth 8000 in
theorem sm_nx1 {I : tkI} {J : tkJ} {R : Nat → Nat} {Q : tkQ} {z : Nat} {B : Nat → Int32} (hz : z ≤ 1000) (hB : TpM (I 6 0) z B) {p0 : Nat} (hK : tkDn tm_142 (52, [some (.inr (.inr (6, 0, 0))), none, none], [], (tk_so I 6 0 (tk_u2 (I 6 0) 0 14 (nI (sbF B (z - p0) p0))), J, R)) Q) : ∀ n p, p + n = z → sbF B n p = sbF B (z - p0) p0 → tkDn tm_142 (0, [some (.inr (.inr (6, 0, 0))), none, none], [], (tk_so I 6 0 (tk_u2 (I 6 0) 0 14 (nI p)), J, R)) Q := by
  obtain ⟨h2, h1⟩ := hB
  intro n
  induction n with
  | zero =>
    intro p hp h
    show tkDn tm_142 (0, [some (.inr (.inr (6, 0, 0))), none, none], [], (tk_so I 6 0 (tk_u2 (I 6 0) 0 14 (nI p)), J, R)) _
    refine dn_run 4 (show tkDn tm_142 (8, [some (.inr (.inr (6, 0, 0))), none, none], [.inl (I 6 0 0 13), .inl (nI p)], (tk_so I 6 0 (tk_u2 (I 6 0) 0 14 (nI p)), J, R)) _ from ?_)
    rw [h2]
    show tkDn tm_142 (8, [some (.inr (.inr (6, 0, 0))), none, none], [.inl (nI z), .inl (nI p)], (tk_so I 6 0 (tk_u2 (I 6 0) 0 14 (nI p)), J, R)) _
    refine dn_if rfl rfl rfl (fun (c0 : (nI z) ≤ (nI p)) => ?_) (fun (c0 : ¬ (nI z) ≤ (nI p)) => ?_)
    · show tkDn tm_142 (52, [some (.inr (.inr (6, 0, 0))), none, none], [], (tk_so I 6 0 (tk_u2 (I 6 0) 0 14 (nI p)), J, R)) _
      rw [← h] at hK
      exact hK
    · exact absurd (nI_le (by omega) (by omega)) c0
  | succ n ih =>
    intro p hp h
    show tkDn tm_142 (0, [some (.inr (.inr (6, 0, 0))), none, none], [], (tk_so I 6 0 (tk_u2 (I 6 0) 0 14 (nI p)), J, R)) _
    refine dn_run 4 (show tkDn tm_142 (8, [some (.inr (.inr (6, 0, 0))), none, none], [.inl (I 6 0 0 13), .inl (nI p)], (tk_so I 6 0 (tk_u2 (I 6 0) 0 14 (nI p)), J, R)) _ from ?_)
    rw [h2]
    show tkDn tm_142 (8, [some (.inr (.inr (6, 0, 0))), none, none], [.inl (nI z), .inl (nI p)], (tk_so I 6 0 (tk_u2 (I 6 0) 0 14 (nI p)), J, R)) _
    refine dn_if rfl rfl rfl (fun (c0 : (nI z) ≤ (nI p)) => ?_) (fun (c0 : ¬ (nI z) ≤ (nI p)) => ?_)
    · exact absurd c0 (nI_ge (by omega) (by omega))
    · show tkDn tm_142 (11, [some (.inr (.inr (6, 0, 0))), none, none], [], (tk_so I 6 0 (tk_u2 (I 6 0) 0 14 (nI p)), J, R)) _
      refine dn_run 6 (show (vp_in (nI p) 1000) ∧ tkDn tm_142 (22, [some (.inr (.inr (6, 0, 0))), none, none], [.inl 32, .inl (I 6 0 13 ((nI p).toNatClampNeg))], (tk_so I 6 0 (tk_u2 (I 6 0) 0 14 (nI p)), J, R)) _ from ⟨vp_in_nI (by omega) (by omega), ?_⟩)
      rw [nI_clamp (show p < 2 ^ 31 by omega), h1 p (by omega)]
      show tkDn tm_142 (22, [some (.inr (.inr (6, 0, 0))), none, none], [.inl 32, .inl (B p)], (tk_so I 6 0 (tk_u2 (I 6 0) 0 14 (nI p)), J, R)) _
      refine dn_if rfl rfl rfl (fun (c1 : (B p) = 32) => ?_) (fun (c1 : ¬ (B p) = 32) => ?_)
      · show tkDn tm_142 (39, [some (.inr (.inr (6, 0, 0))), none, none], [], (tk_so I 6 0 (tk_u2 (I 6 0) 0 14 (nI p)), J, R)) _
        refine dn_run 7 (show tkDn tm_142 (0, [some (.inr (.inr (6, 0, 0))), none, none], [], (tk_so (tk_so I 6 0 (tk_u2 (I 6 0) 0 14 (nI p))) 6 0 (tk_u2 (tk_u2 (I 6 0) 0 14 (nI p)) 0 14 ((nI p) + 1)), J, R)) _ from ?_)
        rw [tk_so_so]
        rw [tk_u2_u2, nI_1]
        exact ih (p + 1) (by omega) ((show sbF B (n + 1) p = sbF B n (p + 1) from if_pos (Or.inl c1)).symm.trans h)
      · show tkDn tm_142 (25, [some (.inr (.inr (6, 0, 0))), none, none], [], (tk_so I 6 0 (tk_u2 (I 6 0) 0 14 (nI p)), J, R)) _
        refine dn_run 6 (show (vp_in (nI p) 1000) ∧ tkDn tm_142 (36, [some (.inr (.inr (6, 0, 0))), none, none], [.inl 10, .inl (I 6 0 13 ((nI p).toNatClampNeg))], (tk_so I 6 0 (tk_u2 (I 6 0) 0 14 (nI p)), J, R)) _ from ⟨vp_in_nI (by omega) (by omega), ?_⟩)
        rw [nI_clamp (show p < 2 ^ 31 by omega), h1 p (by omega)]
        show tkDn tm_142 (36, [some (.inr (.inr (6, 0, 0))), none, none], [.inl 10, .inl (B p)], (tk_so I 6 0 (tk_u2 (I 6 0) 0 14 (nI p)), J, R)) _
        refine dn_if rfl rfl rfl (fun (c2 : ¬ (B p) = 10) => ?_) (fun (c2 : (B p) = 10) => ?_)
        · show tkDn tm_142 (52, [some (.inr (.inr (6, 0, 0))), none, none], [], (tk_so I 6 0 (tk_u2 (I 6 0) 0 14 (nI p)), J, R)) _
          rw [← (show sbF B (n + 1) p = p from if_neg (fun q => q.elim c1 c2)).symm.trans h] at hK
          exact hK
        · show tkDn tm_142 (39, [some (.inr (.inr (6, 0, 0))), none, none], [], (tk_so I 6 0 (tk_u2 (I 6 0) 0 14 (nI p)), J, R)) _
          refine dn_run 7 (show tkDn tm_142 (0, [some (.inr (.inr (6, 0, 0))), none, none], [], (tk_so (tk_so I 6 0 (tk_u2 (I 6 0) 0 14 (nI p))) 6 0 (tk_u2 (tk_u2 (I 6 0) 0 14 (nI p)) 0 14 ((nI p) + 1)), J, R)) _ from ?_)
          rw [tk_so_so]
          rw [tk_u2_u2, nI_1]
          exact ih (p + 1) (by omega) ((show sbF B (n + 1) p = sbF B n (p + 1) from if_pos (Or.inr c2)).symm.trans h)
set_option maxRecDepth 8000 in
theorem sm_nx2 {I : tkI} {J : tkJ} {R : Nat → Nat} {Q : tkQ} {z : Nat} {B : Nat → Int32} (hz : z ≤ 1000) {sg : Int32} {q0 : Nat} {X0 : Nat → Nat → Int32} (hB : TpM X0 z B) (hK : ∀ X, X 0 14 = nI (dgF B (z - q0) q0 0 0).1 → X 0 17 = (dgF B (z - q0) q0 0 0).2.2 → (∀ s j, ¬ (s = 0 ∧ (j = 14 ∨ j = 17)) → X s j = X0 s j) → tkDn tm_142 (261, [some (.inr (.inr (6, 0, 0))), some (.inl sg), some (.inl (nI (dgF B (z - q0) q0 0 0).2.1))], [], (tk_so I 6 0 X, J, R)) Q) : ∀ n q k v X, q + n = z → k ≤ q → X 0 14 = nI q → X 0 17 = v → (∀ s j, ¬ (s = 0 ∧ (j = 14 ∨ j = 17)) → X s j = X0 s j) → dgF B n q k v = dgF B (z - q0) q0 0 0 → tkDn tm_142 (197, [some (.inr (.inr (6, 0, 0))), some (.inl sg), some (.inl (nI k))], [], (tk_so I 6 0 X, J, R)) Q := by
  intro n
  induction n with
  | zero =>
    intro q k v X hq hk h14 h17 hX h
    have hBX : TpM X z B := hB.to (hX 0 13 (by decide)) (fun j => hX 13 j (by omega))
    have hBI : TpM (tk_so I 6 0 X 6 0) z B := by rw [tk_so_same]; exact hBX
    show tkDn tm_142 (197, [some (.inr (.inr (6, 0, 0))), some (.inl sg), some (.inl (nI k))], [], (tk_so I 6 0 X, J, R)) _
    refine dn_run 3 (show tkDn tm_142 (202, [some (.inr (.inr (6, 0, 0))), some (.inl sg), some (.inl (nI k))], [.inl (X 0 14), .inr (.inr (6, 0, 0))], (tk_so I 6 0 X, J, R)) _ from ?_)
    rw [h14]
    show tkDn tm_142 (202, [some (.inr (.inr (6, 0, 0))), some (.inl sg), some (.inl (nI k))], [.inl (nI q), .inr (.inr (6, 0, 0))], (tk_so I 6 0 X, J, R)) _
    refine dn_call rfl rfl rfl rfl rfl (sm_isFigure hz hBI (by omega) ?_)
    show tkDn tm_142 (205, [some (.inr (.inr (6, 0, 0))), some (.inl sg), some (.inl (nI k))], [.inl (if fgP B z q then 1 else 0)], (tk_so I 6 0 X, J, R)) _
    refine dn_if rfl rfl rfl (fun (c0 : (if fgP B z q then 1 else 0) = 0) => ?_) (fun (c0 : ¬ (if fgP B z q then 1 else 0) = 0) => ?_)
    · show tkDn tm_142 (261, [some (.inr (.inr (6, 0, 0))), some (.inl sg), some (.inl (nI k))], [], (tk_so I 6 0 X, J, R)) _
      have hz2 : dgF B 0 q k v = (q, k, v) := rfl
      rw [hz2] at h
      have := hK X (by rw [← h]; exact h14) (by rw [← h]; exact h17) hX
      rw [← h] at this
      exact this
    · exact absurd (ite10.mpr (fun q => by have := q.1; omega)) c0
  | succ n ih =>
    intro q k v X hq hk h14 h17 hX h
    have hBX : TpM X z B := hB.to (hX 0 13 (by decide)) (fun j => hX 13 j (by omega))
    have hBI : TpM (tk_so I 6 0 X 6 0) z B := by rw [tk_so_same]; exact hBX
    show tkDn tm_142 (197, [some (.inr (.inr (6, 0, 0))), some (.inl sg), some (.inl (nI k))], [], (tk_so I 6 0 X, J, R)) _
    refine dn_run 3 (show tkDn tm_142 (202, [some (.inr (.inr (6, 0, 0))), some (.inl sg), some (.inl (nI k))], [.inl (X 0 14), .inr (.inr (6, 0, 0))], (tk_so I 6 0 X, J, R)) _ from ?_)
    rw [h14]
    show tkDn tm_142 (202, [some (.inr (.inr (6, 0, 0))), some (.inl sg), some (.inl (nI k))], [.inl (nI q), .inr (.inr (6, 0, 0))], (tk_so I 6 0 X, J, R)) _
    refine dn_call rfl rfl rfl rfl rfl (sm_isFigure hz hBI (by omega) ?_)
    show tkDn tm_142 (205, [some (.inr (.inr (6, 0, 0))), some (.inl sg), some (.inl (nI k))], [.inl (if fgP B z q then 1 else 0)], (tk_so I 6 0 X, J, R)) _
    refine dn_if rfl rfl rfl (fun (c0 : (if fgP B z q then 1 else 0) = 0) => ?_) (fun (c0 : ¬ (if fgP B z q then 1 else 0) = 0) => ?_)
    · show tkDn tm_142 (261, [some (.inr (.inr (6, 0, 0))), some (.inl sg), some (.inl (nI k))], [], (tk_so I 6 0 X, J, R)) _
      have hz2 : dgF B (n + 1) q k v = (q, k, v) := if_neg (fun y => ite10.mp c0 ⟨by omega, y⟩)
      rw [hz2] at h
      have := hK X (by rw [← h]; exact h14) (by rw [← h]; exact h17) hX
      rw [← h] at this
      exact this
    · show tkDn tm_142 (208, [some (.inr (.inr (6, 0, 0))), some (.inl sg), some (.inl (nI k))], [], (tk_so I 6 0 X, J, R)) _
      have fg : fgP B z q := Classical.byContradiction fun t => c0 (ite10.mpr t)
      refine dn_run 3 (show tkDn tm_142 (212, [some (.inr (.inr (6, 0, 0))), some (.inl sg), some (.inl (nI k))], [.inl 6, .inl (nI k), .inr (.inr (6, 0, 0))], (tk_so I 6 0 X, J, R)) _ from ?_)
      refine dn_if rfl rfl rfl (fun (c3 : 6 ≤ (nI k)) => ?_) (fun (c3 : ¬ 6 ≤ (nI k)) => ?_)
      · show tkDn tm_142 (238, [some (.inr (.inr (6, 0, 0))), some (.inl sg), some (.inl (nI k))], [.inr (.inr (6, 0, 0))], (tk_so I 6 0 X, J, R)) _
        have k6 : ¬ k < 6 := fun z => absurd c3 (nI_ge (b := 6) z (by omega))
        refine dn_run 11 (show tkDn tm_142 (197, [some (.inr (.inr (6, 0, 0))), some (.inl sg), some (.inl ((nI k) + 1))], [], (tk_so (tk_so (tk_so I 6 0 X) 6 0 (tk_u2 X 0 17 (X 0 17))) 6 0 (tk_u2 (tk_u2 X 0 17 (X 0 17)) 0 14 ((X 0 14) + 1)), J, R)) _ from ?_)
        rw [tk_so_so, tk_so_so]
        rw [h14, h17, nI_1, nI_1]
        refine ih (q + 1) (k + 1) v _ (by omega) (by omega) (by rw [tk_u2_1]) (by rw [tk_u2_0 (by decide), tk_u2_1]) (fun s j hs => by rw [tk_u2_0 (by omega), tk_u2_0 (by omega)]; exact hX s j hs) ((show dgF B (n + 1) q k v = dgF B n (q + 1) (k + 1) v from (if_pos fg.2).trans (by rw [if_neg k6])).symm.trans h)
      · show tkDn tm_142 (215, [some (.inr (.inr (6, 0, 0))), some (.inl sg), some (.inl (nI k))], [.inr (.inr (6, 0, 0))], (tk_so I 6 0 X, J, R)) _
        have k6 : k < 6 := Nat.not_le.mp (fun z => c3 (nI_le (a := 6) z (by omega)))
        refine dn_run 22 (show (vp_in (X 0 14) 1000) ∧ tkDn tm_142 (197, [some (.inr (.inr (6, 0, 0))), some (.inl sg), some (.inl ((nI k) + 1))], [], (tk_so (tk_so (tk_so I 6 0 X) 6 0 (tk_u2 X 0 17 (((10 * (X 0 17)) + (X 13 ((X 0 14).toNatClampNeg))) - 48))) 6 0 (tk_u2 (tk_u2 X 0 17 (((10 * (X 0 17)) + (X 13 ((X 0 14).toNatClampNeg))) - 48)) 0 14 ((X 0 14) + 1)), J, R)) _ from ⟨by rw [h14]; exact vp_in_nI (by omega) (by omega), ?_⟩)
        rw [tk_so_so, tk_so_so]
        rw [h14, h17, nI_1, nI_1, nI_clamp (show q < 2 ^ 31 by omega), hBX.2 q (by omega), show 10 * v + B q - 48 = v * 10 + (B q - 48) by rw [Int32.mul_comm, Int32.sub_eq_add_neg, Int32.sub_eq_add_neg, Int32.add_assoc]]
        refine ih (q + 1) (k + 1) (v * 10 + (B q - 48)) _ (by omega) (by omega) (by rw [tk_u2_1]) (by rw [tk_u2_0 (by decide), tk_u2_1]) (fun s j hs => by rw [tk_u2_0 (by omega), tk_u2_0 (by omega)]; exact hX s j hs) ((show dgF B (n + 1) q k v = dgF B n (q + 1) (k + 1) (v * 10 + (B q - 48)) from (if_pos fg.2).trans (by rw [if_pos k6])).symm.trans h)
set_option maxRecDepth 8000 in
theorem sm_nxn0 {I : tkI} {J : tkJ} {R : Nat → Nat} {Q : tkQ} {z : Nat} {B : Nat → Int32} (hz : z ≤ 1000) {r : Nat} (hlt : r < z) {X1 : Nat → Nat → Int32} (hB1 : TpM X1 z B) (f14 : X1 0 14 = nI r) (f16 : X1 0 16 = nI r) (hsg : ¬ B r = 45) (fgq : fgP B z r) (notlt : ¬ ltP (B r)) (hQ : ∀ X, NxP B z r X → (∀ s j, ¬ (s = 0 ∧ 14 ≤ j ∧ j ≤ 17) → X s j = X1 s j) → Q none (tk_so I 6 0 X, J, R)) : tkDn tm_142 (180, [some (.inr (.inr (6, 0, 0))), some (.inl 0), none], [], (tk_so I 6 0 X1, J, R)) Q := by
  have hq : nbP B z r = r := if_neg (fun q => hsg q.2)
  refine dn_run 11 (show tkDn tm_142 (197, [some (.inr (.inr (6, 0, 0))), some (.inl 0), some (.inl 0)], [], (tk_so (tk_so (tk_so I 6 0 X1) 6 0 (tk_u2 X1 0 14 ((X1 0 14) + 0))) 6 0 (tk_u2 (tk_u2 X1 0 14 ((X1 0 14) + 0)) 0 17 0), J, R)) _ from ?_)
  rw [tk_so_so, tk_so_so]
  rw [f14, Int32.add_zero]
  refine sm_nx2 hz (sg := 0) (q0 := r) (X0 := X1) hB1 (fun X g14 g17 gX => ?_) (z - r) r 0 0 _ (by omega) (by omega) (by rw [tk_u2_0 (by decide), tk_u2_1]) (by rw [tk_u2_1]) (fun s j hsj => by rw [tk_u2_0 (by omega), tk_u2_0 (by omega)]) rfl
  have hD : nbD B z r = dgF B (z - r) r 0 0 := by unfold nbD; rw [hq]
  have hdl := dgF_le (B := B) (z - r) r 0 0
  have hd1 := dg1 fgq
  show tkDn tm_142 (261, [some (.inr (.inr (6, 0, 0))), some (.inl 0), some (.inl (nI (dgF B (z - r) r 0 0).2.1))], [], (tk_so I 6 0 X, J, R)) _
  refine dn_run 3 (show tkDn tm_142 (264, [some (.inr (.inr (6, 0, 0))), some (.inl 0), some (.inl (nI (dgF B (z - r) r 0 0).2.1))], [.inl 1, .inl 0, .inr (.inr (6, 0, 0))], (tk_so I 6 0 X, J, R)) _ from ?_)
  refine dn_if rfl rfl rfl (fun (d1 : (¬ (0 : Int32) = 1 : Prop)) => ?_) (fun (d1 : ((0 : Int32) = 1 : Prop)) => ?_)
  · show tkDn tm_142 (275, [some (.inr (.inr (6, 0, 0))), some (.inl 0), some (.inl (nI (dgF B (z - r) r 0 0).2.1))], [.inr (.inr (6, 0, 0))], (tk_so I 6 0 X, J, R)) _
    refine dn_run 6 (show tkDn tm_142 (286, [some (.inr (.inr (6, 0, 0))), some (.inl 0), some (.inl (nI (dgF B (z - r) r 0 0).2.1))], [.inl 6, .inl (nI (dgF B (z - r) r 0 0).2.1), .inr (.inr (6, 0, 0))], (tk_so (tk_so I 6 0 X) 6 0 (tk_u2 X 0 17 (X 0 17)), J, R)) _ from ?_)
    rw [tk_so_so]
    rw [g17]
    show tkDn tm_142 (286, [some (.inr (.inr (6, 0, 0))), some (.inl 0), some (.inl (nI (dgF B (z - r) r 0 0).2.1))], [.inl 6, .inl (nI (dgF B (z - r) r 0 0).2.1), .inr (.inr (6, 0, 0))], (tk_so I 6 0 (tk_u2 X 0 17 ((dgF B (z - r) r 0 0).2.2)), J, R)) _
    refine dn_if rfl rfl rfl (fun (d2 : (nI (dgF B (z - r) r 0 0).2.1) ≤ 6) => ?_) (fun (d2 : ¬ (nI (dgF B (z - r) r 0 0).2.1) ≤ 6) => ?_)
    · show tkDn tm_142 (294, [some (.inr (.inr (6, 0, 0))), some (.inl 0), some (.inl (nI (dgF B (z - r) r 0 0).2.1))], [.inr (.inr (6, 0, 0))], (tk_so I 6 0 (tk_u2 X 0 17 ((dgF B (z - r) r 0 0).2.2)), J, R)) _
      have h6 : ¬ 6 < (dgF B (z - r) r 0 0).2.1 := fun q => nI_ge2 q (by omega) d2
      refine dn_run 2 (show tkDn tm_142 (299, [some (.inr (.inr (6, 0, 0))), some (.inl 0), some (.inl (nI (dgF B (z - r) r 0 0).2.1))], [], (tk_so (tk_so I 6 0 (tk_u2 X 0 17 ((dgF B (z - r) r 0 0).2.2))) 6 0 (tk_u2 (tk_u2 X 0 17 ((dgF B (z - r) r 0 0).2.2)) 0 15 (-3)), J, R)) _ from ?_)
      rw [tk_so_so]
      refine dn_ret0 rfl rfl rfl rfl ?_
      refine hQ _ ⟨by rw [tk_u2_0 (by decide), tk_u2_0 (by decide), gX 0 16 (by decide)]; exact f16, Or.inr (Or.inl ⟨hlt, (dgF B (z - r) r 0 0).2.2, (dgF B (z - r) r 0 0).1, ?_, by rw [tk_u2_1], by rw [tk_u2_0 (by decide), tk_u2_1], by rw [tk_u2_0 (by decide), tk_u2_0 (by decide)]; exact g14⟩)⟩ (fun s j hsj => by rw [tk_u2_0 (by omega), tk_u2_0 (by omega), gX s j (by omega)])
      exact (if_neg (by rw [hD]; omega)).trans (by rw [hD, if_neg (fun q => hsg q.2)])
    · show tkDn tm_142 (289, [some (.inr (.inr (6, 0, 0))), some (.inl 0), some (.inl (nI (dgF B (z - r) r 0 0).2.1))], [.inr (.inr (6, 0, 0))], (tk_so I 6 0 (tk_u2 X 0 17 ((dgF B (z - r) r 0 0).2.2)), J, R)) _
      have h6 : 6 < (dgF B (z - r) r 0 0).2.1 := Nat.not_le.mp (fun q => d2 (nI_le (b := 6) q (by omega)))
      refine dn_run 3 (show tkDn tm_142 (299, [some (.inr (.inr (6, 0, 0))), some (.inl 0), some (.inl (nI (dgF B (z - r) r 0 0).2.1))], [], (tk_so (tk_so I 6 0 (tk_u2 X 0 17 ((dgF B (z - r) r 0 0).2.2))) 6 0 (tk_u2 (tk_u2 X 0 17 ((dgF B (z - r) r 0 0).2.2)) 0 15 (-2)), J, R)) _ from ?_)
      rw [tk_so_so]
      refine dn_ret0 rfl rfl rfl rfl ?_
      refine hQ _ ⟨by rw [tk_u2_0 (by decide), tk_u2_0 (by decide), gX 0 16 (by decide)]; exact f16, Or.inr (Or.inr (Or.inr ⟨hlt, if_pos (Or.inr (by rw [hD]; exact h6)), ?_, by rw [tk_u2_1]⟩))⟩ (fun s j hsj => by rw [tk_u2_0 (by omega), tk_u2_0 (by omega), gX s j (by omega)])
      exact notlt
  · exact absurd d1 (by decide)
set_option maxRecDepth 8000 in
theorem sm_nxn1 {I : tkI} {J : tkJ} {R : Nat → Nat} {Q : tkQ} {z : Nat} {B : Nat → Int32} (hz : z ≤ 1000) {r : Nat} (hlt : r < z) {X1 : Nat → Nat → Int32} (hB1 : TpM X1 z B) (f14 : X1 0 14 = nI r) (f16 : X1 0 16 = nI r) (hsg : B r = 45) (fgq : fgP B z (r + 1)) (notlt : ¬ ltP (B r)) (hQ : ∀ X, NxP B z r X → (∀ s j, ¬ (s = 0 ∧ 14 ≤ j ∧ j ≤ 17) → X s j = X1 s j) → Q none (tk_so I 6 0 X, J, R)) : tkDn tm_142 (180, [some (.inr (.inr (6, 0, 0))), some (.inl 1), none], [], (tk_so I 6 0 X1, J, R)) Q := by
  have hq : nbP B z r = r + 1 := if_pos ⟨hlt, hsg⟩
  refine dn_run 11 (show tkDn tm_142 (197, [some (.inr (.inr (6, 0, 0))), some (.inl 1), some (.inl 0)], [], (tk_so (tk_so (tk_so I 6 0 X1) 6 0 (tk_u2 X1 0 14 ((X1 0 14) + 1))) 6 0 (tk_u2 (tk_u2 X1 0 14 ((X1 0 14) + 1)) 0 17 0), J, R)) _ from ?_)
  rw [tk_so_so, tk_so_so]
  rw [f14, nI_1]
  refine sm_nx2 hz (sg := 1) (q0 := (r + 1)) (X0 := X1) hB1 (fun X g14 g17 gX => ?_) (z - (r + 1)) (r + 1) 0 0 _ (by omega) (by omega) (by rw [tk_u2_0 (by decide), tk_u2_1]) (by rw [tk_u2_1]) (fun s j hsj => by rw [tk_u2_0 (by omega), tk_u2_0 (by omega)]) rfl
  have hD : nbD B z r = dgF B (z - (r + 1)) (r + 1) 0 0 := by unfold nbD; rw [hq]
  have hdl := dgF_le (B := B) (z - (r + 1)) (r + 1) 0 0
  have hd1 := dg1 fgq
  show tkDn tm_142 (261, [some (.inr (.inr (6, 0, 0))), some (.inl 1), some (.inl (nI (dgF B (z - (r + 1)) (r + 1) 0 0).2.1))], [], (tk_so I 6 0 X, J, R)) _
  refine dn_run 3 (show tkDn tm_142 (264, [some (.inr (.inr (6, 0, 0))), some (.inl 1), some (.inl (nI (dgF B (z - (r + 1)) (r + 1) 0 0).2.1))], [.inl 1, .inl 1, .inr (.inr (6, 0, 0))], (tk_so I 6 0 X, J, R)) _ from ?_)
  refine dn_if rfl rfl rfl (fun (d1 : (¬ (1 : Int32) = 1 : Prop)) => ?_) (fun (d1 : ((1 : Int32) = 1 : Prop)) => ?_)
  · exact absurd rfl d1
  · show tkDn tm_142 (267, [some (.inr (.inr (6, 0, 0))), some (.inl 1), some (.inl (nI (dgF B (z - (r + 1)) (r + 1) 0 0).2.1))], [.inr (.inr (6, 0, 0))], (tk_so I 6 0 X, J, R)) _
    refine dn_run 8 (show tkDn tm_142 (286, [some (.inr (.inr (6, 0, 0))), some (.inl 1), some (.inl (nI (dgF B (z - (r + 1)) (r + 1) 0 0).2.1))], [.inl 6, .inl (nI (dgF B (z - (r + 1)) (r + 1) 0 0).2.1), .inr (.inr (6, 0, 0))], (tk_so (tk_so I 6 0 X) 6 0 (tk_u2 X 0 17 (-(X 0 17))), J, R)) _ from ?_)
    rw [tk_so_so]
    rw [g17]
    show tkDn tm_142 (286, [some (.inr (.inr (6, 0, 0))), some (.inl 1), some (.inl (nI (dgF B (z - (r + 1)) (r + 1) 0 0).2.1))], [.inl 6, .inl (nI (dgF B (z - (r + 1)) (r + 1) 0 0).2.1), .inr (.inr (6, 0, 0))], (tk_so I 6 0 (tk_u2 X 0 17 (-(dgF B (z - (r + 1)) (r + 1) 0 0).2.2)), J, R)) _
    refine dn_if rfl rfl rfl (fun (d2 : (nI (dgF B (z - (r + 1)) (r + 1) 0 0).2.1) ≤ 6) => ?_) (fun (d2 : ¬ (nI (dgF B (z - (r + 1)) (r + 1) 0 0).2.1) ≤ 6) => ?_)
    · show tkDn tm_142 (294, [some (.inr (.inr (6, 0, 0))), some (.inl 1), some (.inl (nI (dgF B (z - (r + 1)) (r + 1) 0 0).2.1))], [.inr (.inr (6, 0, 0))], (tk_so I 6 0 (tk_u2 X 0 17 (-(dgF B (z - (r + 1)) (r + 1) 0 0).2.2)), J, R)) _
      have h6 : ¬ 6 < (dgF B (z - (r + 1)) (r + 1) 0 0).2.1 := fun q => nI_ge2 q (by omega) d2
      refine dn_run 2 (show tkDn tm_142 (299, [some (.inr (.inr (6, 0, 0))), some (.inl 1), some (.inl (nI (dgF B (z - (r + 1)) (r + 1) 0 0).2.1))], [], (tk_so (tk_so I 6 0 (tk_u2 X 0 17 (-(dgF B (z - (r + 1)) (r + 1) 0 0).2.2))) 6 0 (tk_u2 (tk_u2 X 0 17 (-(dgF B (z - (r + 1)) (r + 1) 0 0).2.2)) 0 15 (-3)), J, R)) _ from ?_)
      rw [tk_so_so]
      refine dn_ret0 rfl rfl rfl rfl ?_
      refine hQ _ ⟨by rw [tk_u2_0 (by decide), tk_u2_0 (by decide), gX 0 16 (by decide)]; exact f16, Or.inr (Or.inl ⟨hlt, -(dgF B (z - (r + 1)) (r + 1) 0 0).2.2, (dgF B (z - (r + 1)) (r + 1) 0 0).1, ?_, by rw [tk_u2_1], by rw [tk_u2_0 (by decide), tk_u2_1], by rw [tk_u2_0 (by decide), tk_u2_0 (by decide)]; exact g14⟩)⟩ (fun s j hsj => by rw [tk_u2_0 (by omega), tk_u2_0 (by omega), gX s j (by omega)])
      exact (if_neg (by rw [hD]; omega)).trans (by rw [hD, if_pos ⟨hlt, hsg⟩])
    · show tkDn tm_142 (289, [some (.inr (.inr (6, 0, 0))), some (.inl 1), some (.inl (nI (dgF B (z - (r + 1)) (r + 1) 0 0).2.1))], [.inr (.inr (6, 0, 0))], (tk_so I 6 0 (tk_u2 X 0 17 (-(dgF B (z - (r + 1)) (r + 1) 0 0).2.2)), J, R)) _
      have h6 : 6 < (dgF B (z - (r + 1)) (r + 1) 0 0).2.1 := Nat.not_le.mp (fun q => d2 (nI_le (b := 6) q (by omega)))
      refine dn_run 3 (show tkDn tm_142 (299, [some (.inr (.inr (6, 0, 0))), some (.inl 1), some (.inl (nI (dgF B (z - (r + 1)) (r + 1) 0 0).2.1))], [], (tk_so (tk_so I 6 0 (tk_u2 X 0 17 (-(dgF B (z - (r + 1)) (r + 1) 0 0).2.2))) 6 0 (tk_u2 (tk_u2 X 0 17 (-(dgF B (z - (r + 1)) (r + 1) 0 0).2.2)) 0 15 (-2)), J, R)) _ from ?_)
      rw [tk_so_so]
      refine dn_ret0 rfl rfl rfl rfl ?_
      refine hQ _ ⟨by rw [tk_u2_0 (by decide), tk_u2_0 (by decide), gX 0 16 (by decide)]; exact f16, Or.inr (Or.inr (Or.inr ⟨hlt, if_pos (Or.inr (by rw [hD]; exact h6)), ?_, by rw [tk_u2_1]⟩))⟩ (fun s j hsj => by rw [tk_u2_0 (by omega), tk_u2_0 (by omega), gX s j (by omega)])
      exact notlt
set_option maxRecDepth 8000 in
theorem sm_nxl {I : tkI} {J : tkJ} {R : Nat → Nat} {Q : tkQ} {z : Nat} {B : Nat → Int32} (hz : z ≤ 1000) {r : Nat} (hlt : r < z) {X1 : Nat → Nat → Int32} (hB1 : TpM X1 z B) (f14 : X1 0 14 = nI r) (f16 : X1 0 16 = nI r) (tn : tkN B z r = none) (hQ : ∀ X, NxP B z r X → (∀ s j, ¬ (s = 0 ∧ 14 ≤ j ∧ j ≤ 17) → X s j = X1 s j) → Q none (tk_so I 6 0 X, J, R)) : tkDn tm_142 (125, [some (.inr (.inr (6, 0, 0))), some (.inl 0), none], [], (tk_so I 6 0 X1, J, R)) Q := by
  refine dn_run 9 (show (vp_in (X1 0 14) 1000) ∧ tkDn tm_142 (139, [some (.inr (.inr (6, 0, 0))), some (.inl 0), some (.inl (X1 13 ((X1 0 14).toNatClampNeg)))], [.inl 109, .inl (X1 13 ((X1 0 14).toNatClampNeg)), .inr (.inr (6, 0, 0))], (tk_so I 6 0 X1, J, R)) _ from ⟨by rw [f14]; exact vp_in_nI (by omega) (by omega), ?_⟩)
  rw [f14, nI_clamp (show r < 2 ^ 31 by omega), hB1.2 r hlt]
  show tkDn tm_142 (139, [some (.inr (.inr (6, 0, 0))), some (.inl 0), some (.inl (B r))], [.inl 109, .inl (B r), .inr (.inr (6, 0, 0))], (tk_so I 6 0 X1, J, R)) _
  refine dn_if rfl rfl rfl (fun (l1 : (B r) = 109) => ?_) (fun (l1 : ¬ (B r) = 109) => ?_)
  · show tkDn tm_142 (160, [some (.inr (.inr (6, 0, 0))), some (.inl 0), some (.inl (B r))], [.inr (.inr (6, 0, 0))], (tk_so I 6 0 X1, J, R)) _
    refine dn_run 9 (show tkDn tm_142 (179, [some (.inr (.inr (6, 0, 0))), some (.inl 0), some (.inl (B r))], [], (tk_so (tk_so (tk_so I 6 0 X1) 6 0 (tk_u2 X1 0 15 (B r))) 6 0 (tk_u2 (tk_u2 X1 0 15 (B r)) 0 14 ((X1 0 14) + 1)), J, R)) _ from ?_)
    rw [tk_so_so, tk_so_so]
    rw [f14, nI_1]
    refine dn_ret0 rfl rfl rfl rfl ?_
    exact hQ _ ⟨by rw [tk_u2_0 (by decide), tk_u2_0 (by decide)]; exact f16, Or.inr (Or.inr (Or.inl ⟨hlt, tn, Or.inl l1, by rw [tk_u2_0 (by decide), tk_u2_1], by rw [tk_u2_1]⟩))⟩ (fun s j hsj => by rw [tk_u2_0 (by omega), tk_u2_0 (by omega)])
  · show tkDn tm_142 (142, [some (.inr (.inr (6, 0, 0))), some (.inl 0), some (.inl (B r))], [.inr (.inr (6, 0, 0))], (tk_so I 6 0 X1, J, R)) _
    refine dn_run 2 (show tkDn tm_142 (145, [some (.inr (.inr (6, 0, 0))), some (.inl 0), some (.inl (B r))], [.inl 119, .inl (B r), .inr (.inr (6, 0, 0))], (tk_so I 6 0 X1, J, R)) _ from ?_)
    refine dn_if rfl rfl rfl (fun (l2 : (B r) = 119) => ?_) (fun (l2 : ¬ (B r) = 119) => ?_)
    · show tkDn tm_142 (160, [some (.inr (.inr (6, 0, 0))), some (.inl 0), some (.inl (B r))], [.inr (.inr (6, 0, 0))], (tk_so I 6 0 X1, J, R)) _
      refine dn_run 9 (show tkDn tm_142 (179, [some (.inr (.inr (6, 0, 0))), some (.inl 0), some (.inl (B r))], [], (tk_so (tk_so (tk_so I 6 0 X1) 6 0 (tk_u2 X1 0 15 (B r))) 6 0 (tk_u2 (tk_u2 X1 0 15 (B r)) 0 14 ((X1 0 14) + 1)), J, R)) _ from ?_)
      rw [tk_so_so, tk_so_so]
      rw [f14, nI_1]
      refine dn_ret0 rfl rfl rfl rfl ?_
      exact hQ _ ⟨by rw [tk_u2_0 (by decide), tk_u2_0 (by decide)]; exact f16, Or.inr (Or.inr (Or.inl ⟨hlt, tn, Or.inr (Or.inl l2), by rw [tk_u2_0 (by decide), tk_u2_1], by rw [tk_u2_1]⟩))⟩ (fun s j hsj => by rw [tk_u2_0 (by omega), tk_u2_0 (by omega)])
    · show tkDn tm_142 (148, [some (.inr (.inr (6, 0, 0))), some (.inl 0), some (.inl (B r))], [.inr (.inr (6, 0, 0))], (tk_so I 6 0 X1, J, R)) _
      refine dn_run 2 (show tkDn tm_142 (151, [some (.inr (.inr (6, 0, 0))), some (.inl 0), some (.inl (B r))], [.inl 103, .inl (B r), .inr (.inr (6, 0, 0))], (tk_so I 6 0 X1, J, R)) _ from ?_)
      refine dn_if rfl rfl rfl (fun (l3 : (B r) = 103) => ?_) (fun (l3 : ¬ (B r) = 103) => ?_)
      · show tkDn tm_142 (160, [some (.inr (.inr (6, 0, 0))), some (.inl 0), some (.inl (B r))], [.inr (.inr (6, 0, 0))], (tk_so I 6 0 X1, J, R)) _
        refine dn_run 9 (show tkDn tm_142 (179, [some (.inr (.inr (6, 0, 0))), some (.inl 0), some (.inl (B r))], [], (tk_so (tk_so (tk_so I 6 0 X1) 6 0 (tk_u2 X1 0 15 (B r))) 6 0 (tk_u2 (tk_u2 X1 0 15 (B r)) 0 14 ((X1 0 14) + 1)), J, R)) _ from ?_)
        rw [tk_so_so, tk_so_so]
        rw [f14, nI_1]
        refine dn_ret0 rfl rfl rfl rfl ?_
        exact hQ _ ⟨by rw [tk_u2_0 (by decide), tk_u2_0 (by decide)]; exact f16, Or.inr (Or.inr (Or.inl ⟨hlt, tn, Or.inr (Or.inr (Or.inl l3)), by rw [tk_u2_0 (by decide), tk_u2_1], by rw [tk_u2_1]⟩))⟩ (fun s j hsj => by rw [tk_u2_0 (by omega), tk_u2_0 (by omega)])
      · show tkDn tm_142 (154, [some (.inr (.inr (6, 0, 0))), some (.inl 0), some (.inl (B r))], [.inr (.inr (6, 0, 0))], (tk_so I 6 0 X1, J, R)) _
        refine dn_run 2 (show tkDn tm_142 (157, [some (.inr (.inr (6, 0, 0))), some (.inl 0), some (.inl (B r))], [.inl 59, .inl (B r), .inr (.inr (6, 0, 0))], (tk_so I 6 0 X1, J, R)) _ from ?_)
        refine dn_if rfl rfl rfl (fun (l4 : ¬ (B r) = 59) => ?_) (fun (l4 : (B r) = 59) => ?_)
        · show tkDn tm_142 (164, [some (.inr (.inr (6, 0, 0))), some (.inl 0), some (.inl (B r))], [.inr (.inr (6, 0, 0))], (tk_so I 6 0 X1, J, R)) _
          refine dn_run 8 (show tkDn tm_142 (179, [some (.inr (.inr (6, 0, 0))), some (.inl 0), some (.inl (B r))], [], (tk_so (tk_so (tk_so I 6 0 X1) 6 0 (tk_u2 X1 0 15 (-2))) 6 0 (tk_u2 (tk_u2 X1 0 15 (-2)) 0 14 ((X1 0 14) + 1)), J, R)) _ from ?_)
          rw [tk_so_so, tk_so_so]
          rw [f14, nI_1]
          refine dn_ret0 rfl rfl rfl rfl ?_
          exact hQ _ ⟨by rw [tk_u2_0 (by decide), tk_u2_0 (by decide)]; exact f16, Or.inr (Or.inr (Or.inr ⟨hlt, tn, fun q => by rcases q with q | q | q | q; exact l1 q; exact l2 q; exact l3 q; exact l4 q, by rw [tk_u2_0 (by decide), tk_u2_1]⟩))⟩ (fun s j hsj => by rw [tk_u2_0 (by omega), tk_u2_0 (by omega)])
        · show tkDn tm_142 (160, [some (.inr (.inr (6, 0, 0))), some (.inl 0), some (.inl (B r))], [.inr (.inr (6, 0, 0))], (tk_so I 6 0 X1, J, R)) _
          refine dn_run 9 (show tkDn tm_142 (179, [some (.inr (.inr (6, 0, 0))), some (.inl 0), some (.inl (B r))], [], (tk_so (tk_so (tk_so I 6 0 X1) 6 0 (tk_u2 X1 0 15 (B r))) 6 0 (tk_u2 (tk_u2 X1 0 15 (B r)) 0 14 ((X1 0 14) + 1)), J, R)) _ from ?_)
          rw [tk_so_so, tk_so_so]
          rw [f14, nI_1]
          refine dn_ret0 rfl rfl rfl rfl ?_
          exact hQ _ ⟨by rw [tk_u2_0 (by decide), tk_u2_0 (by decide)]; exact f16, Or.inr (Or.inr (Or.inl ⟨hlt, tn, Or.inr (Or.inr (Or.inr l4)), by rw [tk_u2_0 (by decide), tk_u2_1], by rw [tk_u2_1]⟩))⟩ (fun s j hsj => by rw [tk_u2_0 (by omega), tk_u2_0 (by omega)])
set_option maxRecDepth 8000 in
theorem sm_next {I : tkI} {J : tkJ} {R : Nat → Nat} {Q : tkQ} {z : Nat} {B : Nat → Int32} (hz : z ≤ 1000) (hB : TpM (I 6 0) z B) {p : Nat} (hp : p ≤ z) (h14 : I 6 0 0 14 = nI p) (hQ : ∀ X, NxP B z (sbF B (z - p) p) X → (∀ s j, ¬ (s = 0 ∧ 14 ≤ j ∧ j ≤ 17) → X s j = I 6 0 s j) → Q none (tk_so I 6 0 X, J, R)) : tkDn tm_142 (0, [some (.inr (.inr (6, 0, 0))), none, none], [], (I, J, R)) Q := by
  have hs := sbF_le (B := B) (z - p) p
  have key := sm_nx1 (I := I) (J := J) (R := R) (Q := Q) hz hB (p0 := p) ?_ (z - p) p (by omega) rfl
  · rw [← h14, tk_u2_id, tk_so_id] at key; exact key
  obtain ⟨r, hr⟩ : ∃ r, r = sbF B (z - p) p := ⟨_, rfl⟩
  rw [← hr] at hs hQ ⊢
  show tkDn tm_142 (52, [some (.inr (.inr (6, 0, 0))), none, none], [], (tk_so I 6 0 (tk_u2 (I 6 0) 0 14 (nI r)), J, R)) _
  refine dn_run 4 (show tkDn tm_142 (60, [some (.inr (.inr (6, 0, 0))), none, none], [], (tk_so (tk_so I 6 0 (tk_u2 (I 6 0) 0 14 (nI r))) 6 0 (tk_u2 (tk_u2 (I 6 0) 0 14 (nI r)) 0 16 (nI r)), J, R)) _ from ?_)
  rw [tk_so_so]
  obtain ⟨X1, hX1⟩ : ∃ X1, X1 = tk_u2 (tk_u2 (I 6 0) 0 14 (nI r)) 0 16 (nI r) := ⟨_, rfl⟩
  rw [← hX1]
  show tkDn tm_142 (60, [some (.inr (.inr (6, 0, 0))), none, none], [], (tk_so I 6 0 X1, J, R)) _
  have f14 : X1 0 14 = nI r := by rw [hX1, tk_u2_0 (by decide), tk_u2_1]
  have f16 : X1 0 16 = nI r := by rw [hX1, tk_u2_1]
  have fr : ∀ s j, ¬ (s = 0 ∧ 14 ≤ j ∧ j ≤ 17) → X1 s j = I 6 0 s j := fun s j hsj => by rw [hX1, tk_u2_0 (by omega), tk_u2_0 (by omega)]
  have hB1 : TpM X1 z B := hB.to (fr 0 13 (by decide)) (fun j => fr 13 j (by omega))
  have hBI : TpM (tk_so I 6 0 X1 6 0) z B := by rw [tk_so_same]; exact hB1
  refine dn_run 4 (show tkDn tm_142 (68, [some (.inr (.inr (6, 0, 0))), none, none], [.inl (X1 0 13), .inl (X1 0 14)], (tk_so I 6 0 X1, J, R)) _ from ?_)
  rw [f14, hB1.1]
  show tkDn tm_142 (68, [some (.inr (.inr (6, 0, 0))), none, none], [.inl (nI z), .inl (nI r)], (tk_so I 6 0 X1, J, R)) _
  refine dn_if rfl rfl rfl (fun (c0 : ¬ (nI r) = (nI z)) => ?_) (fun (c0 : (nI r) = (nI z)) => ?_)
  · show tkDn tm_142 (77, [some (.inr (.inr (6, 0, 0))), none, none], [], (tk_so I 6 0 X1, J, R)) _
    have hlt : r < z := by have : ¬ r = z := fun q => c0 (by rw [q]); omega
    refine dn_run 6 (show (vp_in (X1 0 14) 1000) ∧ tkDn tm_142 (88, [some (.inr (.inr (6, 0, 0))), none, none], [.inl 45, .inl (X1 13 ((X1 0 14).toNatClampNeg))], (tk_so I 6 0 X1, J, R)) _ from ⟨by rw [f14]; exact vp_in_nI (by omega) (by omega), ?_⟩)
    rw [f14, nI_clamp (show r < 2 ^ 31 by omega), hB1.2 r hlt]
    show tkDn tm_142 (88, [some (.inr (.inr (6, 0, 0))), none, none], [.inl 45, .inl (B r)], (tk_so I 6 0 X1, J, R)) _
    refine dn_if rfl rfl rfl (fun (c1 : ¬ (B r) = 45) => ?_) (fun (c1 : (B r) = 45) => ?_)
    · show tkDn tm_142 (108, [some (.inr (.inr (6, 0, 0))), none, none], [], (tk_so I 6 0 X1, J, R)) _
      have hns : ¬ (B r = 45 ∧ fgP B z (r + 1)) := fun q => c1 q.1
      refine dn_run 2 (show tkDn tm_142 (110, [some (.inr (.inr (6, 0, 0))), some (.inl 0), none], [], (tk_so I 6 0 X1, J, R)) _ from ?_)
      refine dn_run 1 (show tkDn tm_142 (111, [some (.inr (.inr (6, 0, 0))), some (.inl 0), none], [.inl 0], (tk_so I 6 0 X1, J, R)) _ from ?_)
      refine dn_if rfl rfl rfl (fun (b1 : (¬ (0 : Int32) = 0 : Prop)) => ?_) (fun (b1 : ((0 : Int32) = 0 : Prop)) => ?_)
      · exact absurd rfl b1
      · show tkDn tm_142 (114, [some (.inr (.inr (6, 0, 0))), some (.inl 0), none], [], (tk_so I 6 0 X1, J, R)) _
        refine dn_run 3 (show tkDn tm_142 (119, [some (.inr (.inr (6, 0, 0))), some (.inl 0), none], [.inl (X1 0 14), .inr (.inr (6, 0, 0))], (tk_so I 6 0 X1, J, R)) _ from ?_)
        rw [f14]
        show tkDn tm_142 (119, [some (.inr (.inr (6, 0, 0))), some (.inl 0), none], [.inl (nI r), .inr (.inr (6, 0, 0))], (tk_so I 6 0 X1, J, R)) _
        refine dn_call rfl rfl rfl rfl rfl (sm_isFigure hz hBI (by omega) ?_)
        show tkDn tm_142 (122, [some (.inr (.inr (6, 0, 0))), some (.inl 0), none], [.inl (if fgP B z r then 1 else 0)], (tk_so I 6 0 X1, J, R)) _
        refine dn_if rfl rfl rfl (fun (b2 : ¬ (if fgP B z r then 1 else 0) = 0) => ?_) (fun (b2 : (if fgP B z r then 1 else 0) = 0) => ?_)
        · show tkDn tm_142 (180, [some (.inr (.inr (6, 0, 0))), some (.inl 0), none], [], (tk_so I 6 0 X1, J, R)) _
          have fgq : fgP B z r := Classical.byContradiction fun t => b2 (ite10.mpr t)
          have hsg : ¬ B r = 45 := fun q => absurd fgq.2.1 (by rw [q]; decide)
          have notlt : ¬ ltP (B r) := fun q => by have h5 := fgq.2.2; rcases q with q | q | q | q <;> (rw [q] at h5; exact absurd h5 (by decide))
          exact sm_nxn0 hz hlt hB1 f14 f16 hsg fgq notlt (fun X k1 k2 => hQ X k1 (fun s j hsj => (k2 s j hsj).trans (fr s j hsj)))
        · show tkDn tm_142 (125, [some (.inr (.inr (6, 0, 0))), some (.inl 0), none], [], (tk_so I 6 0 X1, J, R)) _
          exact sm_nxl hz hlt hB1 f14 f16 (tkN_no hlt hns (ite10.mp b2)) (fun X k1 k2 => hQ X k1 (fun s j hsj => (k2 s j hsj).trans (fr s j hsj)))
    · show tkDn tm_142 (91, [some (.inr (.inr (6, 0, 0))), none, none], [], (tk_so I 6 0 X1, J, R)) _
      have hsg : B r = 45 := c1
      refine dn_run 5 (show tkDn tm_142 (98, [some (.inr (.inr (6, 0, 0))), none, none], [.inl ((X1 0 14) + 1), .inr (.inr (6, 0, 0))], (tk_so I 6 0 X1, J, R)) _ from ?_)
      rw [f14, nI_1]
      show tkDn tm_142 (98, [some (.inr (.inr (6, 0, 0))), none, none], [.inl (nI (r + 1)), .inr (.inr (6, 0, 0))], (tk_so I 6 0 X1, J, R)) _
      refine dn_call rfl rfl rfl rfl rfl (sm_isFigure hz hBI (by omega) ?_)
      show tkDn tm_142 (101, [some (.inr (.inr (6, 0, 0))), none, none], [.inl (if fgP B z (r + 1) then 1 else 0)], (tk_so I 6 0 X1, J, R)) _
      refine dn_if rfl rfl rfl (fun (a1 : (if fgP B z (r + 1) then 1 else 0) = 0) => ?_) (fun (a1 : ¬ (if fgP B z (r + 1) then 1 else 0) = 0) => ?_)
      · show tkDn tm_142 (108, [some (.inr (.inr (6, 0, 0))), none, none], [], (tk_so I 6 0 X1, J, R)) _
        have hns : ¬ (B r = 45 ∧ fgP B z (r + 1)) := fun q => ite10.mp a1 q.2
        refine dn_run 2 (show tkDn tm_142 (110, [some (.inr (.inr (6, 0, 0))), some (.inl 0), none], [], (tk_so I 6 0 X1, J, R)) _ from ?_)
        refine dn_run 1 (show tkDn tm_142 (111, [some (.inr (.inr (6, 0, 0))), some (.inl 0), none], [.inl 0], (tk_so I 6 0 X1, J, R)) _ from ?_)
        refine dn_if rfl rfl rfl (fun (b1 : (¬ (0 : Int32) = 0 : Prop)) => ?_) (fun (b1 : ((0 : Int32) = 0 : Prop)) => ?_)
        · exact absurd rfl b1
        · show tkDn tm_142 (114, [some (.inr (.inr (6, 0, 0))), some (.inl 0), none], [], (tk_so I 6 0 X1, J, R)) _
          refine dn_run 3 (show tkDn tm_142 (119, [some (.inr (.inr (6, 0, 0))), some (.inl 0), none], [.inl (X1 0 14), .inr (.inr (6, 0, 0))], (tk_so I 6 0 X1, J, R)) _ from ?_)
          rw [f14]
          show tkDn tm_142 (119, [some (.inr (.inr (6, 0, 0))), some (.inl 0), none], [.inl (nI r), .inr (.inr (6, 0, 0))], (tk_so I 6 0 X1, J, R)) _
          refine dn_call rfl rfl rfl rfl rfl (sm_isFigure hz hBI (by omega) ?_)
          show tkDn tm_142 (122, [some (.inr (.inr (6, 0, 0))), some (.inl 0), none], [.inl (if fgP B z r then 1 else 0)], (tk_so I 6 0 X1, J, R)) _
          refine dn_if rfl rfl rfl (fun (b2 : ¬ (if fgP B z r then 1 else 0) = 0) => ?_) (fun (b2 : (if fgP B z r then 1 else 0) = 0) => ?_)
          · show tkDn tm_142 (180, [some (.inr (.inr (6, 0, 0))), some (.inl 0), none], [], (tk_so I 6 0 X1, J, R)) _
            have fgq : fgP B z r := Classical.byContradiction fun t => b2 (ite10.mpr t)
            have hsg : ¬ B r = 45 := fun q => absurd fgq.2.1 (by rw [q]; decide)
            have notlt : ¬ ltP (B r) := fun q => by have h5 := fgq.2.2; rcases q with q | q | q | q <;> (rw [q] at h5; exact absurd h5 (by decide))
            exact sm_nxn0 hz hlt hB1 f14 f16 hsg fgq notlt (fun X k1 k2 => hQ X k1 (fun s j hsj => (k2 s j hsj).trans (fr s j hsj)))
          · show tkDn tm_142 (125, [some (.inr (.inr (6, 0, 0))), some (.inl 0), none], [], (tk_so I 6 0 X1, J, R)) _
            exact sm_nxl hz hlt hB1 f14 f16 (tkN_no hlt hns (ite10.mp b2)) (fun X k1 k2 => hQ X k1 (fun s j hsj => (k2 s j hsj).trans (fr s j hsj)))
      · show tkDn tm_142 (104, [some (.inr (.inr (6, 0, 0))), none, none], [], (tk_so I 6 0 X1, J, R)) _
        have fgq : fgP B z (r + 1) := Classical.byContradiction fun t => a1 (ite10.mpr t)
        have notlt : ¬ ltP (B r) := fun q => by rw [hsg] at q; exact absurd q (by decide)
        refine dn_run 3 (show tkDn tm_142 (110, [some (.inr (.inr (6, 0, 0))), some (.inl 1), none], [], (tk_so I 6 0 X1, J, R)) _ from ?_)
        refine dn_run 1 (show tkDn tm_142 (111, [some (.inr (.inr (6, 0, 0))), some (.inl 1), none], [.inl 1], (tk_so I 6 0 X1, J, R)) _ from ?_)
        refine dn_if rfl rfl rfl (fun (b1 : (¬ (1 : Int32) = 0 : Prop)) => ?_) (fun (b1 : ((1 : Int32) = 0 : Prop)) => ?_)
        · show tkDn tm_142 (180, [some (.inr (.inr (6, 0, 0))), some (.inl 1), none], [], (tk_so I 6 0 X1, J, R)) _
          exact sm_nxn1 hz hlt hB1 f14 f16 hsg fgq notlt (fun X k1 k2 => hQ X k1 (fun s j hsj => (k2 s j hsj).trans (fr s j hsj)))
        · exact absurd b1 (by decide)
  · show tkDn tm_142 (71, [some (.inr (.inr (6, 0, 0))), none, none], [], (tk_so I 6 0 X1, J, R)) _
    have hrz : r = z := (nI_eq (by omega) (by omega)).mp c0
    refine dn_run 3 (show tkDn tm_142 (76, [some (.inr (.inr (6, 0, 0))), none, none], [], (tk_so (tk_so I 6 0 X1) 6 0 (tk_u2 X1 0 15 (-1)), J, R)) _ from ?_)
    rw [tk_so_so]
    refine dn_ret0 rfl rfl rfl rfl ?_
    exact hQ _ ⟨by rw [tk_u2_0 (by decide)]; exact f16, Or.inl ⟨hrz, by rw [tk_u2_1]⟩⟩ (fun s j hsj => by rw [tk_u2_0 (by omega)]; exact fr s j hsj)
