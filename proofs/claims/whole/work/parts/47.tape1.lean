/-! Tape -/
def TpC (X : Nat → Nat → Int32) (z : Nat) (B : Nat → Int32) : Prop := X 0 2 = nI z ∧ ∀ j, j < z → X 1 j = B j
set_option maxRecDepth 8000 in
theorem tk_u2_u2 {α : Type} {N : Nat → Nat → α} {s k : Nat} {x y : α} : tk_u2 (tk_u2 N s k x) s k y = tk_u2 N s k y := by
  funext a j
  by_cases h : a = s ∧ j = k
  · obtain ⟨rfl, rfl⟩ := h; rw [tk_u2_1, tk_u2_1]
  · rw [tk_u2_0 h, tk_u2_0 h, tk_u2_0 h]
set_option maxRecDepth 8000 in
theorem st_skip_loop {I : tkI} {J : tkJ} {R : Nat → Nat} {Q : tkQ} {z : Nat} {B : Nat → Int32} (hz : z ≤ 1000) (hB : TpC (I 3 0) z B) {p0 : Nat} (hQ : Q none (tk_so I 3 0 (tk_u2 (I 3 0) 0 3 (nI (sbF B (z - p0) p0))), J, R)) : ∀ n p, p + n = z → sbF B n p = sbF B (z - p0) p0 → tkDn tm_78 (0, [some (.inr (.inr (3, 0, 0)))], [], (tk_so I 3 0 (tk_u2 (I 3 0) 0 3 (nI p)), J, R)) Q := by
  obtain ⟨h2, h1⟩ := hB
  intro n
  induction n with
  | zero =>
    intro p hp h
    show tkDn tm_78 (0, [some (.inr (.inr (3, 0, 0)))], [], (tk_so I 3 0 (tk_u2 (I 3 0) 0 3 (nI p)), J, R)) _
    refine dn_run 4 (show tkDn tm_78 (8, [some (.inr (.inr (3, 0, 0)))], [.inl (I 3 0 0 2), .inl (nI p)], (tk_so I 3 0 (tk_u2 (I 3 0) 0 3 (nI p)), J, R)) _ from ?_)
    rw [h2]
    show tkDn tm_78 (8, [some (.inr (.inr (3, 0, 0)))], [.inl (nI z), .inl (nI p)], (tk_so I 3 0 (tk_u2 (I 3 0) 0 3 (nI p)), J, R)) _
    refine dn_if rfl rfl rfl (fun (c0 : (nI z) ≤ (nI p)) => ?_) (fun (c0 : ¬ (nI z) ≤ (nI p)) => ?_)
    · show tkDn tm_78 (52, [some (.inr (.inr (3, 0, 0)))], [], (tk_so I 3 0 (tk_u2 (I 3 0) 0 3 (nI p)), J, R)) _
      refine dn_ret0 rfl rfl rfl rfl ?_
      rw [← h] at hQ
      exact hQ
    · exact absurd (nI_le (by omega) (by omega)) c0
  | succ n ih =>
    intro p hp h
    show tkDn tm_78 (0, [some (.inr (.inr (3, 0, 0)))], [], (tk_so I 3 0 (tk_u2 (I 3 0) 0 3 (nI p)), J, R)) _
    refine dn_run 4 (show tkDn tm_78 (8, [some (.inr (.inr (3, 0, 0)))], [.inl (I 3 0 0 2), .inl (nI p)], (tk_so I 3 0 (tk_u2 (I 3 0) 0 3 (nI p)), J, R)) _ from ?_)
    rw [h2]
    show tkDn tm_78 (8, [some (.inr (.inr (3, 0, 0)))], [.inl (nI z), .inl (nI p)], (tk_so I 3 0 (tk_u2 (I 3 0) 0 3 (nI p)), J, R)) _
    refine dn_if rfl rfl rfl (fun (c0 : (nI z) ≤ (nI p)) => ?_) (fun (c0 : ¬ (nI z) ≤ (nI p)) => ?_)
    · exact absurd c0 (nI_ge (by omega) (by omega))
    · show tkDn tm_78 (11, [some (.inr (.inr (3, 0, 0)))], [], (tk_so I 3 0 (tk_u2 (I 3 0) 0 3 (nI p)), J, R)) _
      refine dn_run 6 (show (vp_in (nI p) 1000) ∧ tkDn tm_78 (22, [some (.inr (.inr (3, 0, 0)))], [.inl 32, .inl (I 3 0 1 ((nI p).toNatClampNeg))], (tk_so I 3 0 (tk_u2 (I 3 0) 0 3 (nI p)), J, R)) _ from ⟨vp_in_nI (by omega) (by omega), ?_⟩)
      rw [nI_clamp (show p < 2 ^ 31 by omega), h1 p (by omega)]
      show tkDn tm_78 (22, [some (.inr (.inr (3, 0, 0)))], [.inl 32, .inl (B p)], (tk_so I 3 0 (tk_u2 (I 3 0) 0 3 (nI p)), J, R)) _
      refine dn_if rfl rfl rfl (fun (c1 : (B p) = 32) => ?_) (fun (c1 : ¬ (B p) = 32) => ?_)
      · show tkDn tm_78 (39, [some (.inr (.inr (3, 0, 0)))], [], (tk_so I 3 0 (tk_u2 (I 3 0) 0 3 (nI p)), J, R)) _
        refine dn_run 7 (show tkDn tm_78 (0, [some (.inr (.inr (3, 0, 0)))], [], (tk_so (tk_so I 3 0 (tk_u2 (I 3 0) 0 3 (nI p))) 3 0 (tk_u2 (tk_u2 (I 3 0) 0 3 (nI p)) 0 3 ((nI p) + 1)), J, R)) _ from ?_)
        rw [tk_so_so]
        rw [tk_u2_u2, nI_1]
        exact ih (p + 1) (by omega) ((show sbF B (n + 1) p = sbF B n (p + 1) from if_pos (Or.inl c1)).symm.trans h)
      · show tkDn tm_78 (25, [some (.inr (.inr (3, 0, 0)))], [], (tk_so I 3 0 (tk_u2 (I 3 0) 0 3 (nI p)), J, R)) _
        refine dn_run 6 (show (vp_in (nI p) 1000) ∧ tkDn tm_78 (36, [some (.inr (.inr (3, 0, 0)))], [.inl 10, .inl (I 3 0 1 ((nI p).toNatClampNeg))], (tk_so I 3 0 (tk_u2 (I 3 0) 0 3 (nI p)), J, R)) _ from ⟨vp_in_nI (by omega) (by omega), ?_⟩)
        rw [nI_clamp (show p < 2 ^ 31 by omega), h1 p (by omega)]
        show tkDn tm_78 (36, [some (.inr (.inr (3, 0, 0)))], [.inl 10, .inl (B p)], (tk_so I 3 0 (tk_u2 (I 3 0) 0 3 (nI p)), J, R)) _
        refine dn_if rfl rfl rfl (fun (c2 : ¬ (B p) = 10) => ?_) (fun (c2 : (B p) = 10) => ?_)
        · show tkDn tm_78 (52, [some (.inr (.inr (3, 0, 0)))], [], (tk_so I 3 0 (tk_u2 (I 3 0) 0 3 (nI p)), J, R)) _
          refine dn_ret0 rfl rfl rfl rfl ?_
          rw [← (show sbF B (n + 1) p = p from if_neg (fun q => q.elim c1 c2)).symm.trans h] at hQ
          exact hQ
        · show tkDn tm_78 (39, [some (.inr (.inr (3, 0, 0)))], [], (tk_so I 3 0 (tk_u2 (I 3 0) 0 3 (nI p)), J, R)) _
          refine dn_run 7 (show tkDn tm_78 (0, [some (.inr (.inr (3, 0, 0)))], [], (tk_so (tk_so I 3 0 (tk_u2 (I 3 0) 0 3 (nI p))) 3 0 (tk_u2 (tk_u2 (I 3 0) 0 3 (nI p)) 0 3 ((nI p) + 1)), J, R)) _ from ?_)
          rw [tk_so_so]
          rw [tk_u2_u2, nI_1]
          exact ih (p + 1) (by omega) ((show sbF B (n + 1) p = sbF B n (p + 1) from if_pos (Or.inr c2)).symm.trans h)
set_option maxRecDepth 8000 in
theorem st_skipBlanks {I : tkI} {J : tkJ} {R : Nat → Nat} {Q : tkQ} {z : Nat} {B : Nat → Int32} (hz : z ≤ 1000) (hB : TpC (I 3 0) z B) {p : Nat} (hp : p ≤ z) (h3 : I 3 0 0 3 = nI p) (hQ : Q none (tk_so I 3 0 (tk_u2 (I 3 0) 0 3 (nI (sbF B (z - p) p))), J, R)) : tkDn tm_78 (0, [some (.inr (.inr (3, 0, 0)))], [], (I, J, R)) Q := by
  have := st_skip_loop (J := J) (R := R) (Q := Q) hz hB (p0 := p) hQ (z - p) p (by omega) rfl
  rw [← h3, tk_u2_id, tk_so_id] at this
  exact this
set_option maxRecDepth 8000 in
theorem st_dg_loop {I : tkI} {J : tkJ} {R : Nat → Nat} {Q : tkQ} {z : Nat} {B : Nat → Int32} (hz : z ≤ 1000) (hB : TpC (I 3 0) z B) {sg : Int32} {q0 : Nat} (hK : tkDn tm_79 (118, [some (.inr (.inr (3, 0, 0))), some (.inl sg), some (.inl (nI (dgF B (z - q0) q0 0 0).2.1)), some (.inl ((dgF B (z - q0) q0 0 0).2.2)), some (.inl (nI (dgF B (z - q0) q0 0 0).1))], [], (I, J, R)) Q) : ∀ n q k v, q + n = z → k ≤ q → dgF B n q k v = dgF B (z - q0) q0 0 0 → tkDn tm_79 (54, [some (.inr (.inr (3, 0, 0))), some (.inl sg), some (.inl (nI k)), some (.inl v), some (.inl (nI q))], [], (I, J, R)) Q := by
  obtain ⟨h2, h1⟩ := hB
  intro n
  induction n with
  | zero =>
    intro q k v hq hk h
    show tkDn tm_79 (54, [some (.inr (.inr (3, 0, 0))), some (.inl sg), some (.inl (nI k)), some (.inl v), some (.inl (nI q))], [], (I, J, R)) _
    refine dn_run 3 (show tkDn tm_79 (60, [some (.inr (.inr (3, 0, 0))), some (.inl sg), some (.inl (nI k)), some (.inl v), some (.inl (nI q))], [.inl (I 3 0 0 2), .inl (nI q)], (I, J, R)) _ from ?_)
    rw [h2]
    show tkDn tm_79 (60, [some (.inr (.inr (3, 0, 0))), some (.inl sg), some (.inl (nI k)), some (.inl v), some (.inl (nI q))], [.inl (nI z), .inl (nI q)], (I, J, R)) _
    refine dn_if rfl rfl rfl (fun (c0 : (nI z) ≤ (nI q)) => ?_) (fun (c0 : ¬ (nI z) ≤ (nI q)) => ?_)
    · show tkDn tm_79 (118, [some (.inr (.inr (3, 0, 0))), some (.inl sg), some (.inl (nI k)), some (.inl v), some (.inl (nI q))], [], (I, J, R)) _
      have hz2 : dgF B 0 q k v = (q, k, v) := rfl
      rw [hz2] at h
      rw [← h] at hK
      exact hK
    · exact absurd (nI_le (by omega) (by omega)) c0
  | succ n ih =>
    intro q k v hq hk h
    show tkDn tm_79 (54, [some (.inr (.inr (3, 0, 0))), some (.inl sg), some (.inl (nI k)), some (.inl v), some (.inl (nI q))], [], (I, J, R)) _
    refine dn_run 3 (show tkDn tm_79 (60, [some (.inr (.inr (3, 0, 0))), some (.inl sg), some (.inl (nI k)), some (.inl v), some (.inl (nI q))], [.inl (I 3 0 0 2), .inl (nI q)], (I, J, R)) _ from ?_)
    rw [h2]
    show tkDn tm_79 (60, [some (.inr (.inr (3, 0, 0))), some (.inl sg), some (.inl (nI k)), some (.inl v), some (.inl (nI q))], [.inl (nI z), .inl (nI q)], (I, J, R)) _
    refine dn_if rfl rfl rfl (fun (c0 : (nI z) ≤ (nI q)) => ?_) (fun (c0 : ¬ (nI z) ≤ (nI q)) => ?_)
    · exact absurd c0 (nI_ge (by omega) (by omega))
    · show tkDn tm_79 (63, [some (.inr (.inr (3, 0, 0))), some (.inl sg), some (.inl (nI k)), some (.inl v), some (.inl (nI q))], [], (I, J, R)) _
      refine dn_run 5 (show (vp_in (nI q) 1000) ∧ tkDn tm_79 (72, [some (.inr (.inr (3, 0, 0))), some (.inl sg), some (.inl (nI k)), some (.inl v), some (.inl (nI q))], [.inl 48, .inl (I 3 0 1 ((nI q).toNatClampNeg))], (I, J, R)) _ from ⟨vp_in_nI (by omega) (by omega), ?_⟩)
      rw [nI_clamp (show q < 2 ^ 31 by omega), h1 q (by omega)]
      show tkDn tm_79 (72, [some (.inr (.inr (3, 0, 0))), some (.inl sg), some (.inl (nI k)), some (.inl v), some (.inl (nI q))], [.inl 48, .inl (B q)], (I, J, R)) _
      refine dn_if rfl rfl rfl (fun (c1 : (B q) < 48) => ?_) (fun (c1 : ¬ (B q) < 48) => ?_)
      · show tkDn tm_79 (118, [some (.inr (.inr (3, 0, 0))), some (.inl sg), some (.inl (nI k)), some (.inl v), some (.inl (nI q))], [], (I, J, R)) _
        have hz2 : dgF B (n + 1) q k v = (q, k, v) := if_neg (fun z => absurd c1 (Int32.not_lt.mpr z.1))
        rw [hz2] at h
        rw [← h] at hK
        exact hK
      · show tkDn tm_79 (75, [some (.inr (.inr (3, 0, 0))), some (.inl sg), some (.inl (nI k)), some (.inl v), some (.inl (nI q))], [], (I, J, R)) _
        refine dn_run 5 (show (vp_in (nI q) 1000) ∧ tkDn tm_79 (84, [some (.inr (.inr (3, 0, 0))), some (.inl sg), some (.inl (nI k)), some (.inl v), some (.inl (nI q))], [.inl 57, .inl (I 3 0 1 ((nI q).toNatClampNeg))], (I, J, R)) _ from ⟨vp_in_nI (by omega) (by omega), ?_⟩)
        rw [nI_clamp (show q < 2 ^ 31 by omega), h1 q (by omega)]
        show tkDn tm_79 (84, [some (.inr (.inr (3, 0, 0))), some (.inl sg), some (.inl (nI k)), some (.inl v), some (.inl (nI q))], [.inl 57, .inl (B q)], (I, J, R)) _
        refine dn_if rfl rfl rfl (fun (c2 : 57 < (B q)) => ?_) (fun (c2 : ¬ 57 < (B q)) => ?_)
        · show tkDn tm_79 (118, [some (.inr (.inr (3, 0, 0))), some (.inl sg), some (.inl (nI k)), some (.inl v), some (.inl (nI q))], [], (I, J, R)) _
          have hz2 : dgF B (n + 1) q k v = (q, k, v) := if_neg (fun z => absurd c2 (Int32.not_lt.mpr z.2))
          rw [hz2] at h
          rw [← h] at hK
          exact hK
        · show tkDn tm_79 (87, [some (.inr (.inr (3, 0, 0))), some (.inl sg), some (.inl (nI k)), some (.inl v), some (.inl (nI q))], [], (I, J, R)) _
          have dg : 48 ≤ B q ∧ B q ≤ 57 := ⟨Int32.not_lt.mp c1, Int32.not_lt.mp c2⟩
          refine dn_run 2 (show tkDn tm_79 (90, [some (.inr (.inr (3, 0, 0))), some (.inl sg), some (.inl (nI k)), some (.inl v), some (.inl (nI q))], [.inl 6, .inl (nI k)], (I, J, R)) _ from ?_)
          refine dn_if rfl rfl rfl (fun (c3 : 6 ≤ (nI k)) => ?_) (fun (c3 : ¬ 6 ≤ (nI k)) => ?_)
          · show tkDn tm_79 (109, [some (.inr (.inr (3, 0, 0))), some (.inl sg), some (.inl (nI k)), some (.inl v), some (.inl (nI q))], [], (I, J, R)) _
            have k6 : ¬ k < 6 := fun z => absurd c3 (nI_ge (b := 6) z (by omega))
            refine dn_run 3 (show tkDn tm_79 (54, [some (.inr (.inr (3, 0, 0))), some (.inl sg), some (.inl ((nI k) + 1)), some (.inl v), some (.inl ((nI q) + 1))], [], (I, J, R)) _ from ?_)
            rw [nI_1, nI_1]
            exact ih (q + 1) (k + 1) v (by omega) (by omega) ((show dgF B (n + 1) q k v = dgF B n (q + 1) (k + 1) v from (if_pos dg).trans (by rw [if_neg k6])).symm.trans h)
          · show tkDn tm_79 (93, [some (.inr (.inr (3, 0, 0))), some (.inl sg), some (.inl (nI k)), some (.inl v), some (.inl (nI q))], [], (I, J, R)) _
            have k6 : k < 6 := Nat.not_le.mp (fun z => c3 (nI_le (a := 6) z (by omega)))
            refine dn_run 14 (show (vp_in (nI q) 1000) ∧ tkDn tm_79 (54, [some (.inr (.inr (3, 0, 0))), some (.inl sg), some (.inl ((nI k) + 1)), some (.inl ((v * 10) + ((I 3 0 1 ((nI q).toNatClampNeg)) - 48))), some (.inl ((nI q) + 1))], [], (I, J, R)) _ from ⟨vp_in_nI (by omega) (by omega), ?_⟩)
            rw [nI_1, nI_1, nI_clamp (show q < 2 ^ 31 by omega), h1 q (by omega)]
            exact ih (q + 1) (k + 1) (v * 10 + (B q - 48)) (by omega) (by omega) ((show dgF B (n + 1) q k v = dgF B n (q + 1) (k + 1) (v * 10 + (B q - 48)) from (if_pos dg).trans (by rw [if_pos k6])).symm.trans h)
set_option maxRecDepth 8000 in
theorem nI_zero {n : Nat} (h : n < 2 ^ 31) (e : nI n = 0) : n = 0 := (nI_eq (b := 0) h (by decide)).mp e
set_option maxRecDepth 8000 in
theorem nI_ge2 {n : Nat} (q : 6 < n) (h : n < 2 ^ 31) : ¬ nI n ≤ 6 := fun z => absurd z (nI_ge (a := 6) (b := n) q h)
set_option maxRecDepth 8000 in
theorem st_takeNumber {I : tkI} {J : tkJ} {R : Nat → Nat} {Q : tkQ} {z : Nat} {B : Nat → Int32} (hz : z ≤ 1000) (hB : TpC (I 3 0) z B) {p : Nat} (hp : p ≤ z) (h3 : I 3 0 0 3 = nI p) (hN : tkN B z p = none → Q (some (.inl 0)) (I, J, R)) (hS : ∀ v q, tkN B z p = some (v, q) → Q (some (.inl 1)) (tk_so I 3 0 (tk_u2 (tk_u2 (I 3 0) 0 3 (nI q)) 0 4 v), J, R)) : tkDn tm_79 (0, [some (.inr (.inr (3, 0, 0))), none, none, none, none], [], (I, J, R)) Q := by
  have hB2 := hB
  obtain ⟨h2, h1⟩ := hB2
  have hdl := dgF_le (B := B) (z - nbP B z p) (nbP B z p) 0 0
  have hnp := nbP_le (B := B) hp
  refine dn_run 4 (show tkDn tm_79 (8, [some (.inr (.inr (3, 0, 0))), none, none, none, none], [.inl (I 3 0 0 2), .inl (I 3 0 0 3)], (I, J, R)) _ from ?_)
  rw [h2, h3]
  show tkDn tm_79 (8, [some (.inr (.inr (3, 0, 0))), none, none, none, none], [.inl (nI z), .inl (nI p)], (I, J, R)) _
  refine dn_if rfl rfl rfl (fun (c0 : (nI z) ≤ (nI p)) => ?_) (fun (c0 : ¬ (nI z) ≤ (nI p)) => ?_)
  · show tkDn tm_79 (29, [some (.inr (.inr (3, 0, 0))), none, none, none, none], [], (I, J, R)) _
    have hsg : ¬ sgP B z p := fun q => absurd c0 (nI_ge q.1 (by omega))
    refine dn_run 6 (show tkDn tm_79 (35, [some (.inr (.inr (3, 0, 0))), some (.inl 0), some (.inl 0), some (.inl 0), none], [], (I, J, R)) _ from ?_)
    refine dn_run 1 (show tkDn tm_79 (36, [some (.inr (.inr (3, 0, 0))), some (.inl 0), some (.inl 0), some (.inl 0), none], [.inl 0], (I, J, R)) _ from ?_)
    refine dn_if rfl rfl rfl (fun (e1 : ((0 : Int32) = 0 : Prop)) => ?_) (fun (e1 : (¬ (0 : Int32) = 0 : Prop)) => ?_)
    · show tkDn tm_79 (48, [some (.inr (.inr (3, 0, 0))), some (.inl 0), some (.inl 0), some (.inl 0), none], [], (I, J, R)) _
      refine dn_run 3 (show tkDn tm_79 (54, [some (.inr (.inr (3, 0, 0))), some (.inl 0), some (.inl 0), some (.inl 0), some (.inl (I 3 0 0 3))], [], (I, J, R)) _ from ?_)
      rw [h3]
      have hq : nbP B z p = p := if_neg hsg
      rw [← hq]
      refine st_dg_loop hz hB (q0 := nbP B z p) ?_ (z - nbP B z p) (nbP B z p) 0 0 (by omega) (by omega) rfl
      show tkDn tm_79 (118, [some (.inr (.inr (3, 0, 0))), some (.inl 0), some (.inl (nI (dgF B (z - nbP B z p) (nbP B z p) 0 0).2.1)), some (.inl ((dgF B (z - nbP B z p) (nbP B z p) 0 0).2.2)), some (.inl (nI (dgF B (z - nbP B z p) (nbP B z p) 0 0).1))], [], (I, J, R)) _
      refine dn_run 1 (show tkDn tm_79 (119, [some (.inr (.inr (3, 0, 0))), some (.inl 0), some (.inl (nI (dgF B (z - nbP B z p) (nbP B z p) 0 0).2.1)), some (.inl ((dgF B (z - nbP B z p) (nbP B z p) 0 0).2.2)), some (.inl (nI (dgF B (z - nbP B z p) (nbP B z p) 0 0).1))], [.inl (nI (dgF B (z - nbP B z p) (nbP B z p) 0 0).2.1)], (I, J, R)) _ from ?_)
      refine dn_if rfl rfl rfl (fun (d1 : (nI (dgF B (z - nbP B z p) (nbP B z p) 0 0).2.1) = 0) => ?_) (fun (d1 : ¬ (nI (dgF B (z - nbP B z p) (nbP B z p) 0 0).2.1) = 0) => ?_)
      · show tkDn tm_79 (128, [some (.inr (.inr (3, 0, 0))), some (.inl 0), some (.inl (nI (dgF B (z - nbP B z p) (nbP B z p) 0 0).2.1)), some (.inl ((dgF B (z - nbP B z p) (nbP B z p) 0 0).2.2)), some (.inl (nI (dgF B (z - nbP B z p) (nbP B z p) 0 0).1))], [], (I, J, R)) _
        refine dn_run 1 (show tkDn tm_79 (129, [some (.inr (.inr (3, 0, 0))), some (.inl 0), some (.inl (nI (dgF B (z - nbP B z p) (nbP B z p) 0 0).2.1)), some (.inl ((dgF B (z - nbP B z p) (nbP B z p) 0 0).2.2)), some (.inl (nI (dgF B (z - nbP B z p) (nbP B z p) 0 0).1))], [.inl 0], (I, J, R)) _ from ?_)
        refine dn_retb rfl rfl rfl rfl (by decide) ?_
        exact hN (if_pos (Or.inl (nI_zero (by omega) d1)))
      · show tkDn tm_79 (122, [some (.inr (.inr (3, 0, 0))), some (.inl 0), some (.inl (nI (dgF B (z - nbP B z p) (nbP B z p) 0 0).2.1)), some (.inl ((dgF B (z - nbP B z p) (nbP B z p) 0 0).2.2)), some (.inl (nI (dgF B (z - nbP B z p) (nbP B z p) 0 0).1))], [], (I, J, R)) _
        refine dn_run 2 (show tkDn tm_79 (125, [some (.inr (.inr (3, 0, 0))), some (.inl 0), some (.inl (nI (dgF B (z - nbP B z p) (nbP B z p) 0 0).2.1)), some (.inl ((dgF B (z - nbP B z p) (nbP B z p) 0 0).2.2)), some (.inl (nI (dgF B (z - nbP B z p) (nbP B z p) 0 0).1))], [.inl 6, .inl (nI (dgF B (z - nbP B z p) (nbP B z p) 0 0).2.1)], (I, J, R)) _ from ?_)
        refine dn_if rfl rfl rfl (fun (d2 : (nI (dgF B (z - nbP B z p) (nbP B z p) 0 0).2.1) ≤ 6) => ?_) (fun (d2 : ¬ (nI (dgF B (z - nbP B z p) (nbP B z p) 0 0).2.1) ≤ 6) => ?_)
        · show tkDn tm_79 (130, [some (.inr (.inr (3, 0, 0))), some (.inl 0), some (.inl (nI (dgF B (z - nbP B z p) (nbP B z p) 0 0).2.1)), some (.inl ((dgF B (z - nbP B z p) (nbP B z p) 0 0).2.2)), some (.inl (nI (dgF B (z - nbP B z p) (nbP B z p) 0 0).1))], [], (I, J, R)) _
          refine dn_run 5 (show tkDn tm_79 (138, [some (.inr (.inr (3, 0, 0))), some (.inl 0), some (.inl (nI (dgF B (z - nbP B z p) (nbP B z p) 0 0).2.1)), some (.inl ((dgF B (z - nbP B z p) (nbP B z p) 0 0).2.2)), some (.inl (nI (dgF B (z - nbP B z p) (nbP B z p) 0 0).1))], [.inl 0, .inr (.inr (3, 0, 0))], (tk_so I 3 0 (tk_u2 (I 3 0) 0 3 (nI (dgF B (z - nbP B z p) (nbP B z p) 0 0).1)), J, R)) _ from ?_)
          have hs : tkN B z p = some ((dgF B (z - nbP B z p) (nbP B z p) 0 0).2.2, (dgF B (z - nbP B z p) (nbP B z p) 0 0).1) := (if_neg (fun q => q.elim (fun q => d1 (by show nI (dgF B (z - nbP B z p) (nbP B z p) 0 0).2.1 = 0; rw [show (dgF B (z - nbP B z p) (nbP B z p) 0 0).2.1 = 0 from q]; rfl)) (fun q => absurd d2 (nI_ge2 q (by omega))))).trans (by rw [if_neg hsg]; rfl)
          refine dn_if rfl rfl rfl (fun (d3 : ((0 : Int32) = 0 : Prop)) => ?_) (fun (d3 : (¬ (0 : Int32) = 0 : Prop)) => ?_)
          · show tkDn tm_79 (146, [some (.inr (.inr (3, 0, 0))), some (.inl 0), some (.inl (nI (dgF B (z - nbP B z p) (nbP B z p) 0 0).2.1)), some (.inl ((dgF B (z - nbP B z p) (nbP B z p) 0 0).2.2)), some (.inl (nI (dgF B (z - nbP B z p) (nbP B z p) 0 0).1))], [.inr (.inr (3, 0, 0))], (tk_so I 3 0 (tk_u2 (I 3 0) 0 3 (nI (dgF B (z - nbP B z p) (nbP B z p) 0 0).1)), J, R)) _
            refine dn_run 3 (show tkDn tm_79 (151, [some (.inr (.inr (3, 0, 0))), some (.inl 0), some (.inl (nI (dgF B (z - nbP B z p) (nbP B z p) 0 0).2.1)), some (.inl ((dgF B (z - nbP B z p) (nbP B z p) 0 0).2.2)), some (.inl (nI (dgF B (z - nbP B z p) (nbP B z p) 0 0).1))], [.inl 1], (tk_so (tk_so I 3 0 (tk_u2 (I 3 0) 0 3 (nI (dgF B (z - nbP B z p) (nbP B z p) 0 0).1))) 3 0 (tk_u2 (tk_u2 (I 3 0) 0 3 (nI (dgF B (z - nbP B z p) (nbP B z p) 0 0).1)) 0 4 ((dgF B (z - nbP B z p) (nbP B z p) 0 0).2.2)), J, R)) _ from ?_)
            rw [tk_so_so]
            refine dn_retb rfl rfl rfl rfl (by decide) ?_
            exact hS _ _ hs
          · exact absurd rfl d3
        · show tkDn tm_79 (128, [some (.inr (.inr (3, 0, 0))), some (.inl 0), some (.inl (nI (dgF B (z - nbP B z p) (nbP B z p) 0 0).2.1)), some (.inl ((dgF B (z - nbP B z p) (nbP B z p) 0 0).2.2)), some (.inl (nI (dgF B (z - nbP B z p) (nbP B z p) 0 0).1))], [], (I, J, R)) _
          refine dn_run 1 (show tkDn tm_79 (129, [some (.inr (.inr (3, 0, 0))), some (.inl 0), some (.inl (nI (dgF B (z - nbP B z p) (nbP B z p) 0 0).2.1)), some (.inl ((dgF B (z - nbP B z p) (nbP B z p) 0 0).2.2)), some (.inl (nI (dgF B (z - nbP B z p) (nbP B z p) 0 0).1))], [.inl 0], (I, J, R)) _ from ?_)
          refine dn_retb rfl rfl rfl rfl (by decide) ?_
          exact hN (if_pos (Or.inr (Nat.not_le.mp (fun q => d2 (nI_le (b := 6) q (by omega))))))
    · exact absurd rfl e1
  · show tkDn tm_79 (11, [some (.inr (.inr (3, 0, 0))), none, none, none, none], [], (I, J, R)) _
    have hlt : p < z := Nat.not_le.mp (fun q => c0 (nI_le q (by omega)))
    refine dn_run 6 (show (vp_in (I 3 0 0 3) 1000) ∧ tkDn tm_79 (22, [some (.inr (.inr (3, 0, 0))), none, none, none, none], [.inl 45, .inl (I 3 0 1 ((I 3 0 0 3).toNatClampNeg))], (I, J, R)) _ from ⟨by rw [h3]; exact vp_in_nI (by omega) (by omega), ?_⟩)
    rw [h3, nI_clamp (show p < 2 ^ 31 by omega), h1 p (by omega)]
    show tkDn tm_79 (22, [some (.inr (.inr (3, 0, 0))), none, none, none, none], [.inl 45, .inl (B p)], (I, J, R)) _
    refine dn_if rfl rfl rfl (fun (c1 : ¬ (B p) = 45) => ?_) (fun (c1 : (B p) = 45) => ?_)
    · show tkDn tm_79 (29, [some (.inr (.inr (3, 0, 0))), none, none, none, none], [], (I, J, R)) _
      have hsg : ¬ sgP B z p := fun q => c1 q.2
      refine dn_run 6 (show tkDn tm_79 (35, [some (.inr (.inr (3, 0, 0))), some (.inl 0), some (.inl 0), some (.inl 0), none], [], (I, J, R)) _ from ?_)
      refine dn_run 1 (show tkDn tm_79 (36, [some (.inr (.inr (3, 0, 0))), some (.inl 0), some (.inl 0), some (.inl 0), none], [.inl 0], (I, J, R)) _ from ?_)
      refine dn_if rfl rfl rfl (fun (e1 : ((0 : Int32) = 0 : Prop)) => ?_) (fun (e1 : (¬ (0 : Int32) = 0 : Prop)) => ?_)
      · show tkDn tm_79 (48, [some (.inr (.inr (3, 0, 0))), some (.inl 0), some (.inl 0), some (.inl 0), none], [], (I, J, R)) _
        refine dn_run 3 (show tkDn tm_79 (54, [some (.inr (.inr (3, 0, 0))), some (.inl 0), some (.inl 0), some (.inl 0), some (.inl (I 3 0 0 3))], [], (I, J, R)) _ from ?_)
        rw [h3]
        have hq : nbP B z p = p := if_neg hsg
        rw [← hq]
        refine st_dg_loop hz hB (q0 := nbP B z p) ?_ (z - nbP B z p) (nbP B z p) 0 0 (by omega) (by omega) rfl
        show tkDn tm_79 (118, [some (.inr (.inr (3, 0, 0))), some (.inl 0), some (.inl (nI (dgF B (z - nbP B z p) (nbP B z p) 0 0).2.1)), some (.inl ((dgF B (z - nbP B z p) (nbP B z p) 0 0).2.2)), some (.inl (nI (dgF B (z - nbP B z p) (nbP B z p) 0 0).1))], [], (I, J, R)) _
        refine dn_run 1 (show tkDn tm_79 (119, [some (.inr (.inr (3, 0, 0))), some (.inl 0), some (.inl (nI (dgF B (z - nbP B z p) (nbP B z p) 0 0).2.1)), some (.inl ((dgF B (z - nbP B z p) (nbP B z p) 0 0).2.2)), some (.inl (nI (dgF B (z - nbP B z p) (nbP B z p) 0 0).1))], [.inl (nI (dgF B (z - nbP B z p) (nbP B z p) 0 0).2.1)], (I, J, R)) _ from ?_)
        refine dn_if rfl rfl rfl (fun (d1 : (nI (dgF B (z - nbP B z p) (nbP B z p) 0 0).2.1) = 0) => ?_) (fun (d1 : ¬ (nI (dgF B (z - nbP B z p) (nbP B z p) 0 0).2.1) = 0) => ?_)
        · show tkDn tm_79 (128, [some (.inr (.inr (3, 0, 0))), some (.inl 0), some (.inl (nI (dgF B (z - nbP B z p) (nbP B z p) 0 0).2.1)), some (.inl ((dgF B (z - nbP B z p) (nbP B z p) 0 0).2.2)), some (.inl (nI (dgF B (z - nbP B z p) (nbP B z p) 0 0).1))], [], (I, J, R)) _
          refine dn_run 1 (show tkDn tm_79 (129, [some (.inr (.inr (3, 0, 0))), some (.inl 0), some (.inl (nI (dgF B (z - nbP B z p) (nbP B z p) 0 0).2.1)), some (.inl ((dgF B (z - nbP B z p) (nbP B z p) 0 0).2.2)), some (.inl (nI (dgF B (z - nbP B z p) (nbP B z p) 0 0).1))], [.inl 0], (I, J, R)) _ from ?_)
          refine dn_retb rfl rfl rfl rfl (by decide) ?_
          exact hN (if_pos (Or.inl (nI_zero (by omega) d1)))
        · show tkDn tm_79 (122, [some (.inr (.inr (3, 0, 0))), some (.inl 0), some (.inl (nI (dgF B (z - nbP B z p) (nbP B z p) 0 0).2.1)), some (.inl ((dgF B (z - nbP B z p) (nbP B z p) 0 0).2.2)), some (.inl (nI (dgF B (z - nbP B z p) (nbP B z p) 0 0).1))], [], (I, J, R)) _
          refine dn_run 2 (show tkDn tm_79 (125, [some (.inr (.inr (3, 0, 0))), some (.inl 0), some (.inl (nI (dgF B (z - nbP B z p) (nbP B z p) 0 0).2.1)), some (.inl ((dgF B (z - nbP B z p) (nbP B z p) 0 0).2.2)), some (.inl (nI (dgF B (z - nbP B z p) (nbP B z p) 0 0).1))], [.inl 6, .inl (nI (dgF B (z - nbP B z p) (nbP B z p) 0 0).2.1)], (I, J, R)) _ from ?_)
          refine dn_if rfl rfl rfl (fun (d2 : (nI (dgF B (z - nbP B z p) (nbP B z p) 0 0).2.1) ≤ 6) => ?_) (fun (d2 : ¬ (nI (dgF B (z - nbP B z p) (nbP B z p) 0 0).2.1) ≤ 6) => ?_)
          · show tkDn tm_79 (130, [some (.inr (.inr (3, 0, 0))), some (.inl 0), some (.inl (nI (dgF B (z - nbP B z p) (nbP B z p) 0 0).2.1)), some (.inl ((dgF B (z - nbP B z p) (nbP B z p) 0 0).2.2)), some (.inl (nI (dgF B (z - nbP B z p) (nbP B z p) 0 0).1))], [], (I, J, R)) _
            refine dn_run 5 (show tkDn tm_79 (138, [some (.inr (.inr (3, 0, 0))), some (.inl 0), some (.inl (nI (dgF B (z - nbP B z p) (nbP B z p) 0 0).2.1)), some (.inl ((dgF B (z - nbP B z p) (nbP B z p) 0 0).2.2)), some (.inl (nI (dgF B (z - nbP B z p) (nbP B z p) 0 0).1))], [.inl 0, .inr (.inr (3, 0, 0))], (tk_so I 3 0 (tk_u2 (I 3 0) 0 3 (nI (dgF B (z - nbP B z p) (nbP B z p) 0 0).1)), J, R)) _ from ?_)
            have hs : tkN B z p = some ((dgF B (z - nbP B z p) (nbP B z p) 0 0).2.2, (dgF B (z - nbP B z p) (nbP B z p) 0 0).1) := (if_neg (fun q => q.elim (fun q => d1 (by show nI (dgF B (z - nbP B z p) (nbP B z p) 0 0).2.1 = 0; rw [show (dgF B (z - nbP B z p) (nbP B z p) 0 0).2.1 = 0 from q]; rfl)) (fun q => absurd d2 (nI_ge2 q (by omega))))).trans (by rw [if_neg hsg]; rfl)
            refine dn_if rfl rfl rfl (fun (d3 : ((0 : Int32) = 0 : Prop)) => ?_) (fun (d3 : (¬ (0 : Int32) = 0 : Prop)) => ?_)
            · show tkDn tm_79 (146, [some (.inr (.inr (3, 0, 0))), some (.inl 0), some (.inl (nI (dgF B (z - nbP B z p) (nbP B z p) 0 0).2.1)), some (.inl ((dgF B (z - nbP B z p) (nbP B z p) 0 0).2.2)), some (.inl (nI (dgF B (z - nbP B z p) (nbP B z p) 0 0).1))], [.inr (.inr (3, 0, 0))], (tk_so I 3 0 (tk_u2 (I 3 0) 0 3 (nI (dgF B (z - nbP B z p) (nbP B z p) 0 0).1)), J, R)) _
              refine dn_run 3 (show tkDn tm_79 (151, [some (.inr (.inr (3, 0, 0))), some (.inl 0), some (.inl (nI (dgF B (z - nbP B z p) (nbP B z p) 0 0).2.1)), some (.inl ((dgF B (z - nbP B z p) (nbP B z p) 0 0).2.2)), some (.inl (nI (dgF B (z - nbP B z p) (nbP B z p) 0 0).1))], [.inl 1], (tk_so (tk_so I 3 0 (tk_u2 (I 3 0) 0 3 (nI (dgF B (z - nbP B z p) (nbP B z p) 0 0).1))) 3 0 (tk_u2 (tk_u2 (I 3 0) 0 3 (nI (dgF B (z - nbP B z p) (nbP B z p) 0 0).1)) 0 4 ((dgF B (z - nbP B z p) (nbP B z p) 0 0).2.2)), J, R)) _ from ?_)
              rw [tk_so_so]
              refine dn_retb rfl rfl rfl rfl (by decide) ?_
              exact hS _ _ hs
            · exact absurd rfl d3
          · show tkDn tm_79 (128, [some (.inr (.inr (3, 0, 0))), some (.inl 0), some (.inl (nI (dgF B (z - nbP B z p) (nbP B z p) 0 0).2.1)), some (.inl ((dgF B (z - nbP B z p) (nbP B z p) 0 0).2.2)), some (.inl (nI (dgF B (z - nbP B z p) (nbP B z p) 0 0).1))], [], (I, J, R)) _
            refine dn_run 1 (show tkDn tm_79 (129, [some (.inr (.inr (3, 0, 0))), some (.inl 0), some (.inl (nI (dgF B (z - nbP B z p) (nbP B z p) 0 0).2.1)), some (.inl ((dgF B (z - nbP B z p) (nbP B z p) 0 0).2.2)), some (.inl (nI (dgF B (z - nbP B z p) (nbP B z p) 0 0).1))], [.inl 0], (I, J, R)) _ from ?_)
            refine dn_retb rfl rfl rfl rfl (by decide) ?_
            exact hN (if_pos (Or.inr (Nat.not_le.mp (fun q => d2 (nI_le (b := 6) q (by omega))))))
      · exact absurd rfl e1
    · show tkDn tm_79 (25, [some (.inr (.inr (3, 0, 0))), none, none, none, none], [], (I, J, R)) _
      have hsg : sgP B z p := ⟨hlt, c1⟩
      refine dn_run 7 (show tkDn tm_79 (35, [some (.inr (.inr (3, 0, 0))), some (.inl 1), some (.inl 0), some (.inl 0), none], [], (I, J, R)) _ from ?_)
      refine dn_run 1 (show tkDn tm_79 (36, [some (.inr (.inr (3, 0, 0))), some (.inl 1), some (.inl 0), some (.inl 0), none], [.inl 1], (I, J, R)) _ from ?_)
      refine dn_if rfl rfl rfl (fun (e1 : ((1 : Int32) = 0 : Prop)) => ?_) (fun (e1 : (¬ (1 : Int32) = 0 : Prop)) => ?_)
      · exact absurd e1 (by decide)
      · show tkDn tm_79 (39, [some (.inr (.inr (3, 0, 0))), some (.inl 1), some (.inl 0), some (.inl 0), none], [], (I, J, R)) _
        refine dn_run 6 (show tkDn tm_79 (54, [some (.inr (.inr (3, 0, 0))), some (.inl 1), some (.inl 0), some (.inl 0), some (.inl ((I 3 0 0 3) + 1))], [], (I, J, R)) _ from ?_)
        rw [h3, nI_1]
        have hq : nbP B z p = (p + 1) := if_pos hsg
        rw [← hq]
        refine st_dg_loop hz hB (q0 := nbP B z p) ?_ (z - nbP B z p) (nbP B z p) 0 0 (by omega) (by omega) rfl
        show tkDn tm_79 (118, [some (.inr (.inr (3, 0, 0))), some (.inl 1), some (.inl (nI (dgF B (z - nbP B z p) (nbP B z p) 0 0).2.1)), some (.inl ((dgF B (z - nbP B z p) (nbP B z p) 0 0).2.2)), some (.inl (nI (dgF B (z - nbP B z p) (nbP B z p) 0 0).1))], [], (I, J, R)) _
        refine dn_run 1 (show tkDn tm_79 (119, [some (.inr (.inr (3, 0, 0))), some (.inl 1), some (.inl (nI (dgF B (z - nbP B z p) (nbP B z p) 0 0).2.1)), some (.inl ((dgF B (z - nbP B z p) (nbP B z p) 0 0).2.2)), some (.inl (nI (dgF B (z - nbP B z p) (nbP B z p) 0 0).1))], [.inl (nI (dgF B (z - nbP B z p) (nbP B z p) 0 0).2.1)], (I, J, R)) _ from ?_)
        refine dn_if rfl rfl rfl (fun (d1 : (nI (dgF B (z - nbP B z p) (nbP B z p) 0 0).2.1) = 0) => ?_) (fun (d1 : ¬ (nI (dgF B (z - nbP B z p) (nbP B z p) 0 0).2.1) = 0) => ?_)
        · show tkDn tm_79 (128, [some (.inr (.inr (3, 0, 0))), some (.inl 1), some (.inl (nI (dgF B (z - nbP B z p) (nbP B z p) 0 0).2.1)), some (.inl ((dgF B (z - nbP B z p) (nbP B z p) 0 0).2.2)), some (.inl (nI (dgF B (z - nbP B z p) (nbP B z p) 0 0).1))], [], (I, J, R)) _
          refine dn_run 1 (show tkDn tm_79 (129, [some (.inr (.inr (3, 0, 0))), some (.inl 1), some (.inl (nI (dgF B (z - nbP B z p) (nbP B z p) 0 0).2.1)), some (.inl ((dgF B (z - nbP B z p) (nbP B z p) 0 0).2.2)), some (.inl (nI (dgF B (z - nbP B z p) (nbP B z p) 0 0).1))], [.inl 0], (I, J, R)) _ from ?_)
          refine dn_retb rfl rfl rfl rfl (by decide) ?_
          exact hN (if_pos (Or.inl (nI_zero (by omega) d1)))
        · show tkDn tm_79 (122, [some (.inr (.inr (3, 0, 0))), some (.inl 1), some (.inl (nI (dgF B (z - nbP B z p) (nbP B z p) 0 0).2.1)), some (.inl ((dgF B (z - nbP B z p) (nbP B z p) 0 0).2.2)), some (.inl (nI (dgF B (z - nbP B z p) (nbP B z p) 0 0).1))], [], (I, J, R)) _
          refine dn_run 2 (show tkDn tm_79 (125, [some (.inr (.inr (3, 0, 0))), some (.inl 1), some (.inl (nI (dgF B (z - nbP B z p) (nbP B z p) 0 0).2.1)), some (.inl ((dgF B (z - nbP B z p) (nbP B z p) 0 0).2.2)), some (.inl (nI (dgF B (z - nbP B z p) (nbP B z p) 0 0).1))], [.inl 6, .inl (nI (dgF B (z - nbP B z p) (nbP B z p) 0 0).2.1)], (I, J, R)) _ from ?_)
          refine dn_if rfl rfl rfl (fun (d2 : (nI (dgF B (z - nbP B z p) (nbP B z p) 0 0).2.1) ≤ 6) => ?_) (fun (d2 : ¬ (nI (dgF B (z - nbP B z p) (nbP B z p) 0 0).2.1) ≤ 6) => ?_)
          · show tkDn tm_79 (130, [some (.inr (.inr (3, 0, 0))), some (.inl 1), some (.inl (nI (dgF B (z - nbP B z p) (nbP B z p) 0 0).2.1)), some (.inl ((dgF B (z - nbP B z p) (nbP B z p) 0 0).2.2)), some (.inl (nI (dgF B (z - nbP B z p) (nbP B z p) 0 0).1))], [], (I, J, R)) _
            refine dn_run 5 (show tkDn tm_79 (138, [some (.inr (.inr (3, 0, 0))), some (.inl 1), some (.inl (nI (dgF B (z - nbP B z p) (nbP B z p) 0 0).2.1)), some (.inl ((dgF B (z - nbP B z p) (nbP B z p) 0 0).2.2)), some (.inl (nI (dgF B (z - nbP B z p) (nbP B z p) 0 0).1))], [.inl 1, .inr (.inr (3, 0, 0))], (tk_so I 3 0 (tk_u2 (I 3 0) 0 3 (nI (dgF B (z - nbP B z p) (nbP B z p) 0 0).1)), J, R)) _ from ?_)
            have hs : tkN B z p = some (-(dgF B (z - nbP B z p) (nbP B z p) 0 0).2.2, (dgF B (z - nbP B z p) (nbP B z p) 0 0).1) := (if_neg (fun q => q.elim (fun q => d1 (by show nI (dgF B (z - nbP B z p) (nbP B z p) 0 0).2.1 = 0; rw [show (dgF B (z - nbP B z p) (nbP B z p) 0 0).2.1 = 0 from q]; rfl)) (fun q => absurd d2 (nI_ge2 q (by omega))))).trans (by rw [if_pos hsg]; rfl)
            refine dn_if rfl rfl rfl (fun (d3 : ((1 : Int32) = 0 : Prop)) => ?_) (fun (d3 : (¬ (1 : Int32) = 0 : Prop)) => ?_)
            · exact absurd d3 (by decide)
            · show tkDn tm_79 (141, [some (.inr (.inr (3, 0, 0))), some (.inl 1), some (.inl (nI (dgF B (z - nbP B z p) (nbP B z p) 0 0).2.1)), some (.inl ((dgF B (z - nbP B z p) (nbP B z p) 0 0).2.2)), some (.inl (nI (dgF B (z - nbP B z p) (nbP B z p) 0 0).1))], [.inr (.inr (3, 0, 0))], (tk_so I 3 0 (tk_u2 (I 3 0) 0 3 (nI (dgF B (z - nbP B z p) (nbP B z p) 0 0).1)), J, R)) _
              refine dn_run 5 (show tkDn tm_79 (151, [some (.inr (.inr (3, 0, 0))), some (.inl 1), some (.inl (nI (dgF B (z - nbP B z p) (nbP B z p) 0 0).2.1)), some (.inl ((dgF B (z - nbP B z p) (nbP B z p) 0 0).2.2)), some (.inl (nI (dgF B (z - nbP B z p) (nbP B z p) 0 0).1))], [.inl 1], (tk_so (tk_so I 3 0 (tk_u2 (I 3 0) 0 3 (nI (dgF B (z - nbP B z p) (nbP B z p) 0 0).1))) 3 0 (tk_u2 (tk_u2 (I 3 0) 0 3 (nI (dgF B (z - nbP B z p) (nbP B z p) 0 0).1)) 0 4 (-((dgF B (z - nbP B z p) (nbP B z p) 0 0).2.2))), J, R)) _ from ?_)
              rw [tk_so_so]
              refine dn_retb rfl rfl rfl rfl (by decide) ?_
              exact hS _ _ hs
          · show tkDn tm_79 (128, [some (.inr (.inr (3, 0, 0))), some (.inl 1), some (.inl (nI (dgF B (z - nbP B z p) (nbP B z p) 0 0).2.1)), some (.inl ((dgF B (z - nbP B z p) (nbP B z p) 0 0).2.2)), some (.inl (nI (dgF B (z - nbP B z p) (nbP B z p) 0 0).1))], [], (I, J, R)) _
            refine dn_run 1 (show tkDn tm_79 (129, [some (.inr (.inr (3, 0, 0))), some (.inl 1), some (.inl (nI (dgF B (z - nbP B z p) (nbP B z p) 0 0).2.1)), some (.inl ((dgF B (z - nbP B z p) (nbP B z p) 0 0).2.2)), some (.inl (nI (dgF B (z - nbP B z p) (nbP B z p) 0 0).1))], [.inl 0], (I, J, R)) _ from ?_)
            refine dn_retb rfl rfl rfl rfl (by decide) ?_
            exact hN (if_pos (Or.inr (Nat.not_le.mp (fun q => d2 (nI_le (b := 6) q (by omega))))))
