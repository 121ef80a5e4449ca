/-! Steps: tables of steps, at each place where they are used -/
theorem ss_cell {I : tkI} {J : tkJ} {R : Nat → Nat} {Q : tkQ} {a c : Nat} (hQ : Q (some (.inl (nI (16 * a + c)))) (I, J, R)) : tkDn tm_61 (0, [some (.inl (nI a)), some (.inl (nI c))], [], (I, J, R)) Q := by
  refine dn_run 5 (show tkDn tm_61 (6, [some (.inl (nI a)), some (.inl (nI c))], [.inl (((nI a) * 16) + (nI c))], (I, J, R)) _ from ?_)
  rw [ix16]
  refine dn_ret0 rfl rfl rfl rfl ?_
  exact hQ
theorem ss_fill_0_1_loop {I : tkI} {J : tkJ} {R : Nat → Nat} {Q : tkQ} {x : Int64} (hQ : Q none (I, tk_so J 0 0 (tk_u1 (J 0 0) 1 (fillR (J 0 0 1) 256 x)), R)) : ∀ n i, i + n = 256 → tkDn tm_191 (6, [some (.inr (.inr (0, 0, 1))), some (.inr (.inl x)), none, some (.inl (nI i)), some (.inl 256)], [], (I, tk_so J 0 0 (tk_u1 (J 0 0) 1 (fillR (J 0 0 1) i x)), R)) Q := by
  intro n
  induction n with
  | zero =>
    intro i hi
    have hi : i = 256 := by omega
    subst hi
    show tkDn tm_191 (6, [some (.inr (.inr (0, 0, 1))), some (.inr (.inl x)), none, some (.inl (nI 256)), some (.inl 256)], [], (I, tk_so J 0 0 (tk_u1 (J 0 0) 1 (fillR (J 0 0 1) 256 x)), R)) _
    refine dn_run 2 (show tkDn tm_191 (9, [some (.inr (.inr (0, 0, 1))), some (.inr (.inl x)), none, some (.inl (nI 256)), some (.inl 256)], [.inl 256, .inl (nI 256)], (I, tk_so J 0 0 (tk_u1 (J 0 0) 1 (fillR (J 0 0 1) 256 x)), R)) _ from ?_)
    refine dn_if rfl rfl rfl (fun (c : 256 ≤ (nI 256)) => ?_) (fun (c : ¬ 256 ≤ (nI 256)) => ?_)
    · show tkDn tm_191 (22, [some (.inr (.inr (0, 0, 1))), some (.inr (.inl x)), none, some (.inl (nI 256)), some (.inl 256)], [], (I, tk_so J 0 0 (tk_u1 (J 0 0) 1 (fillR (J 0 0 1) 256 x)), R)) _
      refine dn_ret0 rfl rfl rfl rfl ?_
      exact hQ
    · exact absurd (by decide) c
  | succ n ih =>
    intro i hi
    show tkDn tm_191 (6, [some (.inr (.inr (0, 0, 1))), some (.inr (.inl x)), none, some (.inl (nI i)), some (.inl 256)], [], (I, tk_so J 0 0 (tk_u1 (J 0 0) 1 (fillR (J 0 0 1) i x)), R)) _
    refine dn_run 2 (show tkDn tm_191 (9, [some (.inr (.inr (0, 0, 1))), some (.inr (.inl x)), none, some (.inl (nI i)), some (.inl 256)], [.inl 256, .inl (nI i)], (I, tk_so J 0 0 (tk_u1 (J 0 0) 1 (fillR (J 0 0 1) i x)), R)) _ from ?_)
    refine dn_if rfl rfl rfl (fun (c : 256 ≤ (nI i)) => ?_) (fun (c : ¬ 256 ≤ (nI i)) => ?_)
    · exact absurd c (nI_ge (b := 256) (by omega) (by omega))
    · show tkDn tm_191 (12, [some (.inr (.inr (0, 0, 1))), some (.inr (.inl x)), none, some (.inl (nI i)), some (.inl 256)], [], (I, tk_so J 0 0 (tk_u1 (J 0 0) 1 (fillR (J 0 0 1) i x)), R)) _
      refine dn_run 6 (show (vp_in (nI i) 256) ∧ tkDn tm_191 (6, [some (.inr (.inr (0, 0, 1))), some (.inr (.inl x)), none, some (.inl ((nI i) + 1)), some (.inl 256)], [], (I, tk_so (tk_so J 0 0 (tk_u1 (J 0 0) 1 (fillR (J 0 0 1) i x))) 0 0 (tk_u2 (tk_u1 (J 0 0) 1 (fillR (J 0 0 1) i x)) 1 ((nI i).toNatClampNeg) x), R)) _ from ⟨vp_in_nI (by omega) (by omega), ?_⟩)
      rw [tk_so_so]
      rw [tk_u2_u1, nI_clamp (by omega), fillR_s, nI_1]
      exact ih (i + 1) (by omega)
theorem ss_fill_0_1 {I : tkI} {J : tkJ} {R : Nat → Nat} {Q : tkQ} {x : Int64} (hQ : Q none (I, tk_so J 0 0 (tk_u1 (J 0 0) 1 (fillR (J 0 0 1) 256 x)), R)) : tkDn tm_191 (0, [some (.inr (.inr (0, 0, 1))), some (.inr (.inl x)), none, none, none], [], (I, J, R)) Q := by
  refine dn_run 5 (show tkDn tm_191 (6, [some (.inr (.inr (0, 0, 1))), some (.inr (.inl x)), none, some (.inl 0), some (.inl 256)], [], (I, J, R)) _ from ?_)
  have := ss_fill_0_1_loop hQ 256 0 rfl
  rw [fillR_0, jr_id] at this
  exact this
theorem ss_fill_4_1_loop {I : tkI} {J : tkJ} {R : Nat → Nat} {Q : tkQ} {x : Int64} (hQ : Q none (I, tk_so J 4 0 (tk_u1 (J 4 0) 1 (fillR (J 4 0 1) 256 x)), R)) : ∀ n i, i + n = 256 → tkDn tm_191 (6, [some (.inr (.inr (4, 0, 1))), some (.inr (.inl x)), none, some (.inl (nI i)), some (.inl 256)], [], (I, tk_so J 4 0 (tk_u1 (J 4 0) 1 (fillR (J 4 0 1) i x)), R)) Q := by
  intro n
  induction n with
  | zero =>
    intro i hi
    have hi : i = 256 := by omega
    subst hi
    show tkDn tm_191 (6, [some (.inr (.inr (4, 0, 1))), some (.inr (.inl x)), none, some (.inl (nI 256)), some (.inl 256)], [], (I, tk_so J 4 0 (tk_u1 (J 4 0) 1 (fillR (J 4 0 1) 256 x)), R)) _
    refine dn_run 2 (show tkDn tm_191 (9, [some (.inr (.inr (4, 0, 1))), some (.inr (.inl x)), none, some (.inl (nI 256)), some (.inl 256)], [.inl 256, .inl (nI 256)], (I, tk_so J 4 0 (tk_u1 (J 4 0) 1 (fillR (J 4 0 1) 256 x)), R)) _ from ?_)
    refine dn_if rfl rfl rfl (fun (c : 256 ≤ (nI 256)) => ?_) (fun (c : ¬ 256 ≤ (nI 256)) => ?_)
    · show tkDn tm_191 (22, [some (.inr (.inr (4, 0, 1))), some (.inr (.inl x)), none, some (.inl (nI 256)), some (.inl 256)], [], (I, tk_so J 4 0 (tk_u1 (J 4 0) 1 (fillR (J 4 0 1) 256 x)), R)) _
      refine dn_ret0 rfl rfl rfl rfl ?_
      exact hQ
    · exact absurd (by decide) c
  | succ n ih =>
    intro i hi
    show tkDn tm_191 (6, [some (.inr (.inr (4, 0, 1))), some (.inr (.inl x)), none, some (.inl (nI i)), some (.inl 256)], [], (I, tk_so J 4 0 (tk_u1 (J 4 0) 1 (fillR (J 4 0 1) i x)), R)) _
    refine dn_run 2 (show tkDn tm_191 (9, [some (.inr (.inr (4, 0, 1))), some (.inr (.inl x)), none, some (.inl (nI i)), some (.inl 256)], [.inl 256, .inl (nI i)], (I, tk_so J 4 0 (tk_u1 (J 4 0) 1 (fillR (J 4 0 1) i x)), R)) _ from ?_)
    refine dn_if rfl rfl rfl (fun (c : 256 ≤ (nI i)) => ?_) (fun (c : ¬ 256 ≤ (nI i)) => ?_)
    · exact absurd c (nI_ge (b := 256) (by omega) (by omega))
    · show tkDn tm_191 (12, [some (.inr (.inr (4, 0, 1))), some (.inr (.inl x)), none, some (.inl (nI i)), some (.inl 256)], [], (I, tk_so J 4 0 (tk_u1 (J 4 0) 1 (fillR (J 4 0 1) i x)), R)) _
      refine dn_run 6 (show (vp_in (nI i) 256) ∧ tkDn tm_191 (6, [some (.inr (.inr (4, 0, 1))), some (.inr (.inl x)), none, some (.inl ((nI i) + 1)), some (.inl 256)], [], (I, tk_so (tk_so J 4 0 (tk_u1 (J 4 0) 1 (fillR (J 4 0 1) i x))) 4 0 (tk_u2 (tk_u1 (J 4 0) 1 (fillR (J 4 0 1) i x)) 1 ((nI i).toNatClampNeg) x), R)) _ from ⟨vp_in_nI (by omega) (by omega), ?_⟩)
      rw [tk_so_so]
      rw [tk_u2_u1, nI_clamp (by omega), fillR_s, nI_1]
      exact ih (i + 1) (by omega)
theorem ss_fill_4_1 {I : tkI} {J : tkJ} {R : Nat → Nat} {Q : tkQ} {x : Int64} (hQ : Q none (I, tk_so J 4 0 (tk_u1 (J 4 0) 1 (fillR (J 4 0 1) 256 x)), R)) : tkDn tm_191 (0, [some (.inr (.inr (4, 0, 1))), some (.inr (.inl x)), none, none, none], [], (I, J, R)) Q := by
  refine dn_run 5 (show tkDn tm_191 (6, [some (.inr (.inr (4, 0, 1))), some (.inr (.inl x)), none, some (.inl 0), some (.inl 256)], [], (I, J, R)) _ from ?_)
  have := ss_fill_4_1_loop hQ 256 0 rfl
  rw [fillR_0, jr_id] at this
  exact this
theorem ss_fill_4_4_loop {I : tkI} {J : tkJ} {R : Nat → Nat} {Q : tkQ} {x : Int64} (hQ : Q none (I, tk_so J 4 0 (tk_u1 (J 4 0) 4 (fillR (J 4 0 4) 96 x)), R)) : ∀ n i, i + n = 96 → tkDn tm_191 (6, [some (.inr (.inr (4, 0, 4))), some (.inr (.inl x)), none, some (.inl (nI i)), some (.inl 96)], [], (I, tk_so J 4 0 (tk_u1 (J 4 0) 4 (fillR (J 4 0 4) i x)), R)) Q := by
  intro n
  induction n with
  | zero =>
    intro i hi
    have hi : i = 96 := by omega
    subst hi
    show tkDn tm_191 (6, [some (.inr (.inr (4, 0, 4))), some (.inr (.inl x)), none, some (.inl (nI 96)), some (.inl 96)], [], (I, tk_so J 4 0 (tk_u1 (J 4 0) 4 (fillR (J 4 0 4) 96 x)), R)) _
    refine dn_run 2 (show tkDn tm_191 (9, [some (.inr (.inr (4, 0, 4))), some (.inr (.inl x)), none, some (.inl (nI 96)), some (.inl 96)], [.inl 96, .inl (nI 96)], (I, tk_so J 4 0 (tk_u1 (J 4 0) 4 (fillR (J 4 0 4) 96 x)), R)) _ from ?_)
    refine dn_if rfl rfl rfl (fun (c : 96 ≤ (nI 96)) => ?_) (fun (c : ¬ 96 ≤ (nI 96)) => ?_)
    · show tkDn tm_191 (22, [some (.inr (.inr (4, 0, 4))), some (.inr (.inl x)), none, some (.inl (nI 96)), some (.inl 96)], [], (I, tk_so J 4 0 (tk_u1 (J 4 0) 4 (fillR (J 4 0 4) 96 x)), R)) _
      refine dn_ret0 rfl rfl rfl rfl ?_
      exact hQ
    · exact absurd (by decide) c
  | succ n ih =>
    intro i hi
    show tkDn tm_191 (6, [some (.inr (.inr (4, 0, 4))), some (.inr (.inl x)), none, some (.inl (nI i)), some (.inl 96)], [], (I, tk_so J 4 0 (tk_u1 (J 4 0) 4 (fillR (J 4 0 4) i x)), R)) _
    refine dn_run 2 (show tkDn tm_191 (9, [some (.inr (.inr (4, 0, 4))), some (.inr (.inl x)), none, some (.inl (nI i)), some (.inl 96)], [.inl 96, .inl (nI i)], (I, tk_so J 4 0 (tk_u1 (J 4 0) 4 (fillR (J 4 0 4) i x)), R)) _ from ?_)
    refine dn_if rfl rfl rfl (fun (c : 96 ≤ (nI i)) => ?_) (fun (c : ¬ 96 ≤ (nI i)) => ?_)
    · exact absurd c (nI_ge (b := 96) (by omega) (by omega))
    · show tkDn tm_191 (12, [some (.inr (.inr (4, 0, 4))), some (.inr (.inl x)), none, some (.inl (nI i)), some (.inl 96)], [], (I, tk_so J 4 0 (tk_u1 (J 4 0) 4 (fillR (J 4 0 4) i x)), R)) _
      refine dn_run 6 (show (vp_in (nI i) 96) ∧ tkDn tm_191 (6, [some (.inr (.inr (4, 0, 4))), some (.inr (.inl x)), none, some (.inl ((nI i) + 1)), some (.inl 96)], [], (I, tk_so (tk_so J 4 0 (tk_u1 (J 4 0) 4 (fillR (J 4 0 4) i x))) 4 0 (tk_u2 (tk_u1 (J 4 0) 4 (fillR (J 4 0 4) i x)) 4 ((nI i).toNatClampNeg) x), R)) _ from ⟨vp_in_nI (by omega) (by omega), ?_⟩)
      rw [tk_so_so]
      rw [tk_u2_u1, nI_clamp (by omega), fillR_s, nI_1]
      exact ih (i + 1) (by omega)
theorem ss_fill_4_4 {I : tkI} {J : tkJ} {R : Nat → Nat} {Q : tkQ} {x : Int64} (hQ : Q none (I, tk_so J 4 0 (tk_u1 (J 4 0) 4 (fillR (J 4 0 4) 96 x)), R)) : tkDn tm_191 (0, [some (.inr (.inr (4, 0, 4))), some (.inr (.inl x)), none, none, none], [], (I, J, R)) Q := by
  refine dn_run 5 (show tkDn tm_191 (6, [some (.inr (.inr (4, 0, 4))), some (.inr (.inl x)), none, some (.inl 0), some (.inl 96)], [], (I, J, R)) _ from ?_)
  have := ss_fill_4_4_loop hQ 96 0 rfl
  rw [fillR_0, jr_id] at this
  exact this
theorem diag_s {r : Nat → Int64} {m : Nat} (hm : m < 16) (h : ∀ a b, a < 16 → b < 16 → r (16 * a + b) = if a = b ∧ a < m then 0 else 4611686018427387904) : ∀ a b, a < 16 → b < 16 → tk_u1 r (16 * m + m) 0 (16 * a + b) = if a = b ∧ a < m + 1 then 0 else 4611686018427387904 := by
  intro a b ha hb
  by_cases e : a = m ∧ b = m
  · obtain ⟨rfl, rfl⟩ := e
    rw [tk_u1_same, if_pos ⟨rfl, by omega⟩]
  · rw [tk_u1_ne (by omega), h a b ha hb]
    by_cases e2 : a = b ∧ a < m
    · rw [if_pos e2, if_pos ⟨e2.1, by omega⟩]
    · rw [if_neg e2, if_neg (by omega)]
theorem ss_clear_0_1_loop {I : tkI} {J : tkJ} {R : Nat → Nat} {Q : tkQ} (hQ : ∀ r, RowP 16 r d0M → Q none (I, tk_so J 0 0 (tk_u1 (J 0 0) 1 r), R)) : ∀ n m r, m + n = 16 → (∀ a b, a < 16 → b < 16 → r (16 * a + b) = if a = b ∧ a < m then 0 else 4611686018427387904) → tkDn tm_62 (9, [some (.inr (.inr (0, 0, 1))), some (.inl (nI m))], [], (I, tk_so J 0 0 (tk_u1 (J 0 0) 1 r), R)) Q := by
  intro n
  induction n with
  | zero =>
    intro m r hm hr
    show tkDn tm_62 (9, [some (.inr (.inr (0, 0, 1))), some (.inl (nI m))], [], (I, tk_so J 0 0 (tk_u1 (J 0 0) 1 r), R)) _
    refine dn_run 2 (show tkDn tm_62 (12, [some (.inr (.inr (0, 0, 1))), some (.inl (nI m))], [.inl 16, .inl (nI m)], (I, tk_so J 0 0 (tk_u1 (J 0 0) 1 r), R)) _ from ?_)
    refine dn_if rfl rfl rfl (fun (c : 16 ≤ (nI m)) => ?_) (fun (c : ¬ 16 ≤ (nI m)) => ?_)
    · show tkDn tm_62 (29, [some (.inr (.inr (0, 0, 1))), some (.inl (nI m))], [], (I, tk_so J 0 0 (tk_u1 (J 0 0) 1 r), R)) _
      refine dn_ret0 rfl rfl rfl rfl ?_
      refine hQ r (fun a b ha hb => ?_)
      rw [hr a b ha hb]
      unfold d0M
      by_cases e : a = b
      · rw [if_pos ⟨e, by omega⟩, if_pos e]
      · rw [if_neg (fun q => e q.1), if_neg e]
    · exact absurd (by rw [show m = 16 by omega]; decide) c
  | succ n ih =>
    intro m r hm hr
    show tkDn tm_62 (9, [some (.inr (.inr (0, 0, 1))), some (.inl (nI m))], [], (I, tk_so J 0 0 (tk_u1 (J 0 0) 1 r), R)) _
    refine dn_run 2 (show tkDn tm_62 (12, [some (.inr (.inr (0, 0, 1))), some (.inl (nI m))], [.inl 16, .inl (nI m)], (I, tk_so J 0 0 (tk_u1 (J 0 0) 1 r), R)) _ from ?_)
    refine dn_if rfl rfl rfl (fun (c : 16 ≤ (nI m)) => ?_) (fun (c : ¬ 16 ≤ (nI m)) => ?_)
    · exact absurd c (nI_ge (b := 16) (by omega) (by omega))
    · show tkDn tm_62 (15, [some (.inr (.inr (0, 0, 1))), some (.inl (nI m))], [], (I, tk_so J 0 0 (tk_u1 (J 0 0) 1 r), R)) _
      refine dn_run 3 (show tkDn tm_62 (18, [some (.inr (.inr (0, 0, 1))), some (.inl (nI m))], [.inl (nI m), .inl (nI m), .inr (.inr (0, 0, 1))], (I, tk_so J 0 0 (tk_u1 (J 0 0) 1 r), R)) _ from ?_)
      refine dn_call rfl rfl rfl rfl rfl (ss_cell ?_)
      show tkDn tm_62 (21, [some (.inr (.inr (0, 0, 1))), some (.inl (nI m))], [.inl (nI (16 * m + m)), .inr (.inr (0, 0, 1))], (I, tk_so J 0 0 (tk_u1 (J 0 0) 1 r), R)) _
      refine dn_run 4 (show (vp_in (nI (16 * m + m)) 256) ∧ tkDn tm_62 (9, [some (.inr (.inr (0, 0, 1))), some (.inl ((nI m) + 1))], [], (I, tk_so (tk_so J 0 0 (tk_u1 (J 0 0) 1 r)) 0 0 (tk_u2 (tk_u1 (J 0 0) 1 r) 1 ((nI (16 * m + m)).toNatClampNeg) 0), R)) _ from ⟨vp_in_nI (by omega) (by omega), ?_⟩)
      rw [tk_so_so]
      rw [tk_u2_u1, nI_clamp (by omega), nI_1]
      exact ih (m + 1) _ (by omega) (diag_s (by omega) hr)
theorem ss_clear_0_1 {I : tkI} {J : tkJ} {R : Nat → Nat} {Q : tkQ} (hQ : ∀ r, RowP 16 r d0M → Q none (I, tk_so J 0 0 (tk_u1 (J 0 0) 1 r), R)) : tkDn tm_62 (0, [some (.inr (.inr (0, 0, 1))), none], [], (I, J, R)) Q := by
  refine dn_run 2 (show tkDn tm_62 (4, [some (.inr (.inr (0, 0, 1))), none], [.inr (.inl 4611686018427387904), .inr (.inr (0, 0, 1))], (I, J, R)) _ from ?_)
  refine dn_call rfl rfl rfl rfl rfl (ss_fill_0_1 ?_)
  show tkDn tm_62 (7, [some (.inr (.inr (0, 0, 1))), none], [], (I, tk_so J 0 0 (tk_u1 (J 0 0) 1 (fillR (J 0 0 1) 256 4611686018427387904)), R)) _
  refine dn_run 2 (show tkDn tm_62 (9, [some (.inr (.inr (0, 0, 1))), some (.inl 0)], [], (I, tk_so J 0 0 (tk_u1 (J 0 0) 1 (fillR (J 0 0 1) 256 4611686018427387904)), R)) _ from ?_)
  refine ss_clear_0_1_loop hQ 16 0 _ rfl (fun a b ha hb => ?_)
  unfold fillR
  rw [if_pos (by omega), if_neg (by omega)]
theorem ss_clear_4_1_loop {I : tkI} {J : tkJ} {R : Nat → Nat} {Q : tkQ} (hQ : ∀ r, RowP 16 r d0M → Q none (I, tk_so J 4 0 (tk_u1 (J 4 0) 1 r), R)) : ∀ n m r, m + n = 16 → (∀ a b, a < 16 → b < 16 → r (16 * a + b) = if a = b ∧ a < m then 0 else 4611686018427387904) → tkDn tm_62 (9, [some (.inr (.inr (4, 0, 1))), some (.inl (nI m))], [], (I, tk_so J 4 0 (tk_u1 (J 4 0) 1 r), R)) Q := by
  intro n
  induction n with
  | zero =>
    intro m r hm hr
    show tkDn tm_62 (9, [some (.inr (.inr (4, 0, 1))), some (.inl (nI m))], [], (I, tk_so J 4 0 (tk_u1 (J 4 0) 1 r), R)) _
    refine dn_run 2 (show tkDn tm_62 (12, [some (.inr (.inr (4, 0, 1))), some (.inl (nI m))], [.inl 16, .inl (nI m)], (I, tk_so J 4 0 (tk_u1 (J 4 0) 1 r), R)) _ from ?_)
    refine dn_if rfl rfl rfl (fun (c : 16 ≤ (nI m)) => ?_) (fun (c : ¬ 16 ≤ (nI m)) => ?_)
    · show tkDn tm_62 (29, [some (.inr (.inr (4, 0, 1))), some (.inl (nI m))], [], (I, tk_so J 4 0 (tk_u1 (J 4 0) 1 r), R)) _
      refine dn_ret0 rfl rfl rfl rfl ?_
      refine hQ r (fun a b ha hb => ?_)
      rw [hr a b ha hb]
      unfold d0M
      by_cases e : a = b
      · rw [if_pos ⟨e, by omega⟩, if_pos e]
      · rw [if_neg (fun q => e q.1), if_neg e]
    · exact absurd (by rw [show m = 16 by omega]; decide) c
  | succ n ih =>
    intro m r hm hr
    show tkDn tm_62 (9, [some (.inr (.inr (4, 0, 1))), some (.inl (nI m))], [], (I, tk_so J 4 0 (tk_u1 (J 4 0) 1 r), R)) _
    refine dn_run 2 (show tkDn tm_62 (12, [some (.inr (.inr (4, 0, 1))), some (.inl (nI m))], [.inl 16, .inl (nI m)], (I, tk_so J 4 0 (tk_u1 (J 4 0) 1 r), R)) _ from ?_)
    refine dn_if rfl rfl rfl (fun (c : 16 ≤ (nI m)) => ?_) (fun (c : ¬ 16 ≤ (nI m)) => ?_)
    · exact absurd c (nI_ge (b := 16) (by omega) (by omega))
    · show tkDn tm_62 (15, [some (.inr (.inr (4, 0, 1))), some (.inl (nI m))], [], (I, tk_so J 4 0 (tk_u1 (J 4 0) 1 r), R)) _
      refine dn_run 3 (show tkDn tm_62 (18, [some (.inr (.inr (4, 0, 1))), some (.inl (nI m))], [.inl (nI m), .inl (nI m), .inr (.inr (4, 0, 1))], (I, tk_so J 4 0 (tk_u1 (J 4 0) 1 r), R)) _ from ?_)
      refine dn_call rfl rfl rfl rfl rfl (ss_cell ?_)
      show tkDn tm_62 (21, [some (.inr (.inr (4, 0, 1))), some (.inl (nI m))], [.inl (nI (16 * m + m)), .inr (.inr (4, 0, 1))], (I, tk_so J 4 0 (tk_u1 (J 4 0) 1 r), R)) _
      refine dn_run 4 (show (vp_in (nI (16 * m + m)) 256) ∧ tkDn tm_62 (9, [some (.inr (.inr (4, 0, 1))), some (.inl ((nI m) + 1))], [], (I, tk_so (tk_so J 4 0 (tk_u1 (J 4 0) 1 r)) 4 0 (tk_u2 (tk_u1 (J 4 0) 1 r) 1 ((nI (16 * m + m)).toNatClampNeg) 0), R)) _ from ⟨vp_in_nI (by omega) (by omega), ?_⟩)
      rw [tk_so_so]
      rw [tk_u2_u1, nI_clamp (by omega), nI_1]
      exact ih (m + 1) _ (by omega) (diag_s (by omega) hr)
theorem ss_clear_4_1 {I : tkI} {J : tkJ} {R : Nat → Nat} {Q : tkQ} (hQ : ∀ r, RowP 16 r d0M → Q none (I, tk_so J 4 0 (tk_u1 (J 4 0) 1 r), R)) : tkDn tm_62 (0, [some (.inr (.inr (4, 0, 1))), none], [], (I, J, R)) Q := by
  refine dn_run 2 (show tkDn tm_62 (4, [some (.inr (.inr (4, 0, 1))), none], [.inr (.inl 4611686018427387904), .inr (.inr (4, 0, 1))], (I, J, R)) _ from ?_)
  refine dn_call rfl rfl rfl rfl rfl (ss_fill_4_1 ?_)
  show tkDn tm_62 (7, [some (.inr (.inr (4, 0, 1))), none], [], (I, tk_so J 4 0 (tk_u1 (J 4 0) 1 (fillR (J 4 0 1) 256 4611686018427387904)), R)) _
  refine dn_run 2 (show tkDn tm_62 (9, [some (.inr (.inr (4, 0, 1))), some (.inl 0)], [], (I, tk_so J 4 0 (tk_u1 (J 4 0) 1 (fillR (J 4 0 1) 256 4611686018427387904)), R)) _ from ?_)
  refine ss_clear_4_1_loop hQ 16 0 _ rfl (fun a b ha hb => ?_)
  unfold fillR
  rw [if_pos (by omega), if_neg (by omega)]
theorem ss_lower_0_1 {I : tkI} {J : tkJ} {R : Nat → Nat} {Q : tkQ} {a c : Nat} {y : Int64} (ha : a < 16) (hc : c < 16) (hQ : Q none (I, tk_so J 0 0 (tk_u1 (J 0 0) 1 (low1 (J 0 0 1) (16 * a + c) y)), R)) : tkDn tm_63 (0, [some (.inr (.inr (0, 0, 1))), some (.inl (nI a)), some (.inl (nI c)), some (.inr (.inl y)), none, none], [], (I, J, R)) Q := by
  refine dn_run 6 (show tkDn tm_63 (8, [some (.inr (.inr (0, 0, 1))), some (.inl (nI a)), some (.inl (nI c)), some (.inr (.inl y)), none, some (.inl (((nI a) * 16) + (nI c)))], [], (I, J, R)) _ from ?_)
  rw [ix16]
  show tkDn tm_63 (8, [some (.inr (.inr (0, 0, 1))), some (.inl (nI a)), some (.inl (nI c)), some (.inr (.inl y)), none, some (.inl (nI (16 * a + c)))], [], (I, J, R)) _
  refine dn_run 5 (show (vp_in (nI (16 * a + c)) 256) ∧ tkDn tm_63 (14, [some (.inr (.inr (0, 0, 1))), some (.inl (nI a)), some (.inl (nI c)), some (.inr (.inl y)), none, some (.inl (nI (16 * a + c)))], [.inl (lg_cmp y (J 0 0 1 ((nI (16 * a + c)).toNatClampNeg)))], (I, J, R)) _ from ⟨vp_in_nI (by omega) (by omega), ?_⟩)
  rw [nI_clamp (show 16 * a + c < 2 ^ 31 by omega)]
  refine dn_if rfl rfl rfl (fun (q : 0 ≤ (lg_cmp y (J 0 0 1 (16 * a + c)))) => ?_) (fun (q : ¬ 0 ≤ (lg_cmp y (J 0 0 1 (16 * a + c)))) => ?_)
  · show tkDn tm_63 (22, [some (.inr (.inr (0, 0, 1))), some (.inl (nI a)), some (.inl (nI c)), some (.inr (.inl y)), none, some (.inl (nI (16 * a + c)))], [], (I, J, R)) _
    refine dn_ret0 rfl rfl rfl rfl ?_
    rw [show low1 (J 0 0 1) (16 * a + c) y = J 0 0 1 from if_neg (Int64.not_lt.mpr ((lg_cmp_ge _ _).mp q)), jr_id] at hQ
    exact hQ
  · show tkDn tm_63 (17, [some (.inr (.inr (0, 0, 1))), some (.inl (nI a)), some (.inl (nI c)), some (.inr (.inl y)), none, some (.inl (nI (16 * a + c)))], [], (I, J, R)) _
    refine dn_run 4 (show (vp_in (nI (16 * a + c)) 256) ∧ tkDn tm_63 (22, [some (.inr (.inr (0, 0, 1))), some (.inl (nI a)), some (.inl (nI c)), some (.inr (.inl y)), none, some (.inl (nI (16 * a + c)))], [], (I, tk_so J 0 0 (tk_u2 (J 0 0) 1 ((nI (16 * a + c)).toNatClampNeg) y), R)) _ from ⟨vp_in_nI (by omega) (by omega), ?_⟩)
    refine dn_ret0 rfl rfl rfl rfl ?_
    rw [show low1 (J 0 0 1) (16 * a + c) y = tk_u1 (J 0 0 1) (16 * a + c) y from if_pos (Int64.not_le.mp (fun t => q ((lg_cmp_ge _ _).mpr t)))] at hQ
    rw [nI_clamp (show 16 * a + c < 2 ^ 31 by omega)]
    exact hQ
theorem ss_lower_4_1 {I : tkI} {J : tkJ} {R : Nat → Nat} {Q : tkQ} {a c : Nat} {y : Int64} (ha : a < 16) (hc : c < 16) (hQ : Q none (I, tk_so J 4 0 (tk_u1 (J 4 0) 1 (low1 (J 4 0 1) (16 * a + c) y)), R)) : tkDn tm_63 (0, [some (.inr (.inr (4, 0, 1))), some (.inl (nI a)), some (.inl (nI c)), some (.inr (.inl y)), none, none], [], (I, J, R)) Q := by
  refine dn_run 6 (show tkDn tm_63 (8, [some (.inr (.inr (4, 0, 1))), some (.inl (nI a)), some (.inl (nI c)), some (.inr (.inl y)), none, some (.inl (((nI a) * 16) + (nI c)))], [], (I, J, R)) _ from ?_)
  rw [ix16]
  show tkDn tm_63 (8, [some (.inr (.inr (4, 0, 1))), some (.inl (nI a)), some (.inl (nI c)), some (.inr (.inl y)), none, some (.inl (nI (16 * a + c)))], [], (I, J, R)) _
  refine dn_run 5 (show (vp_in (nI (16 * a + c)) 256) ∧ tkDn tm_63 (14, [some (.inr (.inr (4, 0, 1))), some (.inl (nI a)), some (.inl (nI c)), some (.inr (.inl y)), none, some (.inl (nI (16 * a + c)))], [.inl (lg_cmp y (J 4 0 1 ((nI (16 * a + c)).toNatClampNeg)))], (I, J, R)) _ from ⟨vp_in_nI (by omega) (by omega), ?_⟩)
  rw [nI_clamp (show 16 * a + c < 2 ^ 31 by omega)]
  refine dn_if rfl rfl rfl (fun (q : 0 ≤ (lg_cmp y (J 4 0 1 (16 * a + c)))) => ?_) (fun (q : ¬ 0 ≤ (lg_cmp y (J 4 0 1 (16 * a + c)))) => ?_)
  · show tkDn tm_63 (22, [some (.inr (.inr (4, 0, 1))), some (.inl (nI a)), some (.inl (nI c)), some (.inr (.inl y)), none, some (.inl (nI (16 * a + c)))], [], (I, J, R)) _
    refine dn_ret0 rfl rfl rfl rfl ?_
    rw [show low1 (J 4 0 1) (16 * a + c) y = J 4 0 1 from if_neg (Int64.not_lt.mpr ((lg_cmp_ge _ _).mp q)), jr_id] at hQ
    exact hQ
  · show tkDn tm_63 (17, [some (.inr (.inr (4, 0, 1))), some (.inl (nI a)), some (.inl (nI c)), some (.inr (.inl y)), none, some (.inl (nI (16 * a + c)))], [], (I, J, R)) _
    refine dn_run 4 (show (vp_in (nI (16 * a + c)) 256) ∧ tkDn tm_63 (22, [some (.inr (.inr (4, 0, 1))), some (.inl (nI a)), some (.inl (nI c)), some (.inr (.inl y)), none, some (.inl (nI (16 * a + c)))], [], (I, tk_so J 4 0 (tk_u2 (J 4 0) 1 ((nI (16 * a + c)).toNatClampNeg) y), R)) _ from ⟨vp_in_nI (by omega) (by omega), ?_⟩)
    refine dn_ret0 rfl rfl rfl rfl ?_
    rw [show low1 (J 4 0 1) (16 * a + c) y = tk_u1 (J 4 0 1) (16 * a + c) y from if_pos (Int64.not_le.mp (fun t => q ((lg_cmp_ge _ _).mpr t)))] at hQ
    rw [nI_clamp (show 16 * a + c < 2 ^ 31 by omega)]
    exact hQ
theorem ss_lower_4_3 {I : tkI} {J : tkJ} {R : Nat → Nat} {Q : tkQ} {a c : Nat} {y : Int64} (ha : a < 16) (hc : c < 16) (hQ : Q none (I, tk_so J 4 0 (tk_u1 (J 4 0) 3 (low1 (J 4 0 3) (16 * a + c) y)), R)) : tkDn tm_63 (0, [some (.inr (.inr (4, 0, 3))), some (.inl (nI a)), some (.inl (nI c)), some (.inr (.inl y)), none, none], [], (I, J, R)) Q := by
  refine dn_run 6 (show tkDn tm_63 (8, [some (.inr (.inr (4, 0, 3))), some (.inl (nI a)), some (.inl (nI c)), some (.inr (.inl y)), none, some (.inl (((nI a) * 16) + (nI c)))], [], (I, J, R)) _ from ?_)
  rw [ix16]
  show tkDn tm_63 (8, [some (.inr (.inr (4, 0, 3))), some (.inl (nI a)), some (.inl (nI c)), some (.inr (.inl y)), none, some (.inl (nI (16 * a + c)))], [], (I, J, R)) _
  refine dn_run 5 (show (vp_in (nI (16 * a + c)) 256) ∧ tkDn tm_63 (14, [some (.inr (.inr (4, 0, 3))), some (.inl (nI a)), some (.inl (nI c)), some (.inr (.inl y)), none, some (.inl (nI (16 * a + c)))], [.inl (lg_cmp y (J 4 0 3 ((nI (16 * a + c)).toNatClampNeg)))], (I, J, R)) _ from ⟨vp_in_nI (by omega) (by omega), ?_⟩)
  rw [nI_clamp (show 16 * a + c < 2 ^ 31 by omega)]
  refine dn_if rfl rfl rfl (fun (q : 0 ≤ (lg_cmp y (J 4 0 3 (16 * a + c)))) => ?_) (fun (q : ¬ 0 ≤ (lg_cmp y (J 4 0 3 (16 * a + c)))) => ?_)
  · show tkDn tm_63 (22, [some (.inr (.inr (4, 0, 3))), some (.inl (nI a)), some (.inl (nI c)), some (.inr (.inl y)), none, some (.inl (nI (16 * a + c)))], [], (I, J, R)) _
    refine dn_ret0 rfl rfl rfl rfl ?_
    rw [show low1 (J 4 0 3) (16 * a + c) y = J 4 0 3 from if_neg (Int64.not_lt.mpr ((lg_cmp_ge _ _).mp q)), jr_id] at hQ
    exact hQ
  · show tkDn tm_63 (17, [some (.inr (.inr (4, 0, 3))), some (.inl (nI a)), some (.inl (nI c)), some (.inr (.inl y)), none, some (.inl (nI (16 * a + c)))], [], (I, J, R)) _
    refine dn_run 4 (show (vp_in (nI (16 * a + c)) 256) ∧ tkDn tm_63 (22, [some (.inr (.inr (4, 0, 3))), some (.inl (nI a)), some (.inl (nI c)), some (.inr (.inl y)), none, some (.inl (nI (16 * a + c)))], [], (I, tk_so J 4 0 (tk_u2 (J 4 0) 3 ((nI (16 * a + c)).toNatClampNeg) y), R)) _ from ⟨vp_in_nI (by omega) (by omega), ?_⟩)
    refine dn_ret0 rfl rfl rfl rfl ?_
    rw [show low1 (J 4 0 3) (16 * a + c) y = tk_u1 (J 4 0 3) (16 * a + c) y from if_pos (Int64.not_le.mp (fun t => q ((lg_cmp_ge _ _).mpr t)))] at hQ
    rw [nI_clamp (show 16 * a + c < 2 ^ 31 by omega)]
    exact hQ
theorem ss_lowerBothWays_0_1 {I : tkI} {J : tkJ} {R : Nat → Nat} {Q : tkQ} {a c : Nat} {y z : Int64} (ha : a < 16) (hc : c < 16) (hQ : Q none (I, tk_so J 0 0 (tk_u1 (J 0 0) 1 (low1 (low1 (J 0 0 1) (16 * a + c) z) (16 * c + a) (-y))), R)) : tkDn tm_64 (0, [some (.inr (.inr (0, 0, 1))), some (.inl (nI a)), some (.inl (nI c)), some (.inr (.inl y)), none, some (.inr (.inl z)), none], [], (I, J, R)) Q := by
  refine dn_run 4 (show tkDn tm_64 (5, [some (.inr (.inr (0, 0, 1))), some (.inl (nI a)), some (.inl (nI c)), some (.inr (.inl y)), none, some (.inr (.inl z)), none], [.inr (.inl z), .inl (nI c), .inl (nI a), .inr (.inr (0, 0, 1))], (I, J, R)) _ from ?_)
  refine dn_call rfl rfl rfl rfl rfl (ss_lower_0_1 ha hc ?_)
  show tkDn tm_64 (8, [some (.inr (.inr (0, 0, 1))), some (.inl (nI a)), some (.inl (nI c)), some (.inr (.inl y)), none, some (.inr (.inl z)), none], [], (I, tk_so J 0 0 (tk_u1 (J 0 0) 1 (low1 (J 0 0 1) (16 * a + c) z)), R)) _
  refine dn_run 5 (show tkDn tm_64 (13, [some (.inr (.inr (0, 0, 1))), some (.inl (nI a)), some (.inl (nI c)), some (.inr (.inl y)), none, some (.inr (.inl z)), none], [.inr (.inl (-y)), .inl (nI a), .inl (nI c), .inr (.inr (0, 0, 1))], (I, tk_so J 0 0 (tk_u1 (J 0 0) 1 (low1 (J 0 0 1) (16 * a + c) z)), R)) _ from ?_)
  refine dn_call rfl rfl rfl rfl rfl (ss_lower_0_1 hc ha ?_)
  rw [tk_so_so, tk_so_same, tk_u1_u1, tk_u1_same]
  show tkDn tm_64 (16, [some (.inr (.inr (0, 0, 1))), some (.inl (nI a)), some (.inl (nI c)), some (.inr (.inl y)), none, some (.inr (.inl z)), none], [], (I, tk_so J 0 0 (tk_u1 (J 0 0) 1 (low1 (low1 (J 0 0 1) (16 * a + c) z) (16 * c + a) (-y))), R)) _
  refine dn_ret0 rfl rfl rfl rfl ?_
  exact hQ
theorem ss_lowerBothWays_4_1 {I : tkI} {J : tkJ} {R : Nat → Nat} {Q : tkQ} {a c : Nat} {y z : Int64} (ha : a < 16) (hc : c < 16) (hQ : Q none (I, tk_so J 4 0 (tk_u1 (J 4 0) 1 (low1 (low1 (J 4 0 1) (16 * a + c) z) (16 * c + a) (-y))), R)) : tkDn tm_64 (0, [some (.inr (.inr (4, 0, 1))), some (.inl (nI a)), some (.inl (nI c)), some (.inr (.inl y)), none, some (.inr (.inl z)), none], [], (I, J, R)) Q := by
  refine dn_run 4 (show tkDn tm_64 (5, [some (.inr (.inr (4, 0, 1))), some (.inl (nI a)), some (.inl (nI c)), some (.inr (.inl y)), none, some (.inr (.inl z)), none], [.inr (.inl z), .inl (nI c), .inl (nI a), .inr (.inr (4, 0, 1))], (I, J, R)) _ from ?_)
  refine dn_call rfl rfl rfl rfl rfl (ss_lower_4_1 ha hc ?_)
  show tkDn tm_64 (8, [some (.inr (.inr (4, 0, 1))), some (.inl (nI a)), some (.inl (nI c)), some (.inr (.inl y)), none, some (.inr (.inl z)), none], [], (I, tk_so J 4 0 (tk_u1 (J 4 0) 1 (low1 (J 4 0 1) (16 * a + c) z)), R)) _
  refine dn_run 5 (show tkDn tm_64 (13, [some (.inr (.inr (4, 0, 1))), some (.inl (nI a)), some (.inl (nI c)), some (.inr (.inl y)), none, some (.inr (.inl z)), none], [.inr (.inl (-y)), .inl (nI a), .inl (nI c), .inr (.inr (4, 0, 1))], (I, tk_so J 4 0 (tk_u1 (J 4 0) 1 (low1 (J 4 0 1) (16 * a + c) z)), R)) _ from ?_)
  refine dn_call rfl rfl rfl rfl rfl (ss_lower_4_1 hc ha ?_)
  rw [tk_so_so, tk_so_same, tk_u1_u1, tk_u1_same]
  show tkDn tm_64 (16, [some (.inr (.inr (4, 0, 1))), some (.inl (nI a)), some (.inl (nI c)), some (.inr (.inl y)), none, some (.inr (.inl z)), none], [], (I, tk_so J 4 0 (tk_u1 (J 4 0) 1 (low1 (low1 (J 4 0 1) (16 * a + c) z) (16 * c + a) (-y))), R)) _
  refine dn_ret0 rfl rfl rfl rfl ?_
  exact hQ
theorem ss_ofAllLinks_0_1_loop {I : tkI} {J : tkJ} {R : Nat → Nat} {Q : tkQ} {b : Nat} {S : tkS} (hP : NetP (I 1 b) S) (w : WF S) (hQ : ∀ r, RowP 16 r (linkM S (sL S)) → Q none (I, tk_so J 0 0 (tk_u1 (J 0 0) 1 r), R)) : ∀ n l r, l + n = sL S → RowP 16 r (linkM S l) → tkDn tm_65 (6, [some (.inr (.inr (1, b, 0))), some (.inr (.inr (0, 0, 1))), some (.inl (nI l))], [], (I, tk_so J 0 0 (tk_u1 (J 0 0) 1 r), R)) Q := by
  have hM16 := w.1
  have hL60 := w.2.1
  intro n
  induction n with
  | zero =>
    intro l r hl hr
    show tkDn tm_65 (6, [some (.inr (.inr (1, b, 0))), some (.inr (.inr (0, 0, 1))), some (.inl (nI l))], [], (I, tk_so J 0 0 (tk_u1 (J 0 0) 1 r), R)) _
    refine dn_run 2 (show tkDn tm_65 (8, [some (.inr (.inr (1, b, 0))), some (.inr (.inr (0, 0, 1))), some (.inl (nI l))], [.inr (.inr (1, b, 0)), .inl (nI l)], (I, tk_so J 0 0 (tk_u1 (J 0 0) 1 r), R)) _ from ?_)
    refine dn_call rfl rfl rfl rfl rfl (sN_linkCount hP ?_)
    show tkDn tm_65 (11, [some (.inr (.inr (1, b, 0))), some (.inr (.inr (0, 0, 1))), some (.inl (nI l))], [.inl (nI (sL S)), .inl (nI l)], (I, tk_so J 0 0 (tk_u1 (J 0 0) 1 r), R)) _
    refine dn_if rfl rfl rfl (fun (c : (nI (sL S)) ≤ (nI l)) => ?_) (fun (c : ¬ (nI (sL S)) ≤ (nI l)) => ?_)
    · show tkDn tm_65 (46, [some (.inr (.inr (1, b, 0))), some (.inr (.inr (0, 0, 1))), some (.inl (nI l))], [], (I, tk_so J 0 0 (tk_u1 (J 0 0) 1 r), R)) _
      refine dn_ret0 rfl rfl rfl rfl ?_
      rw [show l = sL S by omega] at hr
      exact hQ r hr
    · exact absurd (nI_le (by omega) (by omega)) c
  | succ n ih =>
    intro l r hl hr
    have hf := w.fM (j := l) (by omega)
    have he := w.eM (j := l) (by omega)
    show tkDn tm_65 (6, [some (.inr (.inr (1, b, 0))), some (.inr (.inr (0, 0, 1))), some (.inl (nI l))], [], (I, tk_so J 0 0 (tk_u1 (J 0 0) 1 r), R)) _
    refine dn_run 2 (show tkDn tm_65 (8, [some (.inr (.inr (1, b, 0))), some (.inr (.inr (0, 0, 1))), some (.inl (nI l))], [.inr (.inr (1, b, 0)), .inl (nI l)], (I, tk_so J 0 0 (tk_u1 (J 0 0) 1 r), R)) _ from ?_)
    refine dn_call rfl rfl rfl rfl rfl (sN_linkCount hP ?_)
    show tkDn tm_65 (11, [some (.inr (.inr (1, b, 0))), some (.inr (.inr (0, 0, 1))), some (.inl (nI l))], [.inl (nI (sL S)), .inl (nI l)], (I, tk_so J 0 0 (tk_u1 (J 0 0) 1 r), R)) _
    refine dn_if rfl rfl rfl (fun (c : (nI (sL S)) ≤ (nI l)) => ?_) (fun (c : ¬ (nI (sL S)) ≤ (nI l)) => ?_)
    · exact absurd c (nI_ge (by omega) (by omega))
    · show tkDn tm_65 (14, [some (.inr (.inr (1, b, 0))), some (.inr (.inr (0, 0, 1))), some (.inl (nI l))], [], (I, tk_so J 0 0 (tk_u1 (J 0 0) 1 r), R)) _
      refine dn_run 3 (show tkDn tm_65 (17, [some (.inr (.inr (1, b, 0))), some (.inr (.inr (0, 0, 1))), some (.inl (nI l))], [.inl (nI l), .inr (.inr (1, b, 0)), .inr (.inr (0, 0, 1))], (I, tk_so J 0 0 (tk_u1 (J 0 0) 1 r), R)) _ from ?_)
      refine dn_call rfl rfl rfl rfl rfl (sN_linkFrom hP w (j := l) (by omega) ?_)
      show tkDn tm_65 (20, [some (.inr (.inr (1, b, 0))), some (.inr (.inr (0, 0, 1))), some (.inl (nI l))], [.inl (nI (sf S l)), .inr (.inr (0, 0, 1))], (I, tk_so J 0 0 (tk_u1 (J 0 0) 1 r), R)) _
      refine dn_run 2 (show tkDn tm_65 (22, [some (.inr (.inr (1, b, 0))), some (.inr (.inr (0, 0, 1))), some (.inl (nI l))], [.inl (nI l), .inr (.inr (1, b, 0)), .inl (nI (sf S l)), .inr (.inr (0, 0, 1))], (I, tk_so J 0 0 (tk_u1 (J 0 0) 1 r), R)) _ from ?_)
      refine dn_call rfl rfl rfl rfl rfl (sN_linkTo hP w (j := l) (by omega) ?_)
      show tkDn tm_65 (25, [some (.inr (.inr (1, b, 0))), some (.inr (.inr (0, 0, 1))), some (.inl (nI l))], [.inl (nI (se S l)), .inl (nI (sf S l)), .inr (.inr (0, 0, 1))], (I, tk_so J 0 0 (tk_u1 (J 0 0) 1 r), R)) _
      refine dn_run 2 (show tkDn tm_65 (27, [some (.inr (.inr (1, b, 0))), some (.inr (.inr (0, 0, 1))), some (.inl (nI l))], [.inl (nI l), .inr (.inr (1, b, 0)), .inl (nI (se S l)), .inl (nI (sf S l)), .inr (.inr (0, 0, 1))], (I, tk_so J 0 0 (tk_u1 (J 0 0) 1 r), R)) _ from ?_)
      refine dn_call rfl rfl rfl rfl rfl (sN_linkLow hP w (j := l) (by omega) ?_)
      show tkDn tm_65 (30, [some (.inr (.inr (1, b, 0))), some (.inr (.inr (0, 0, 1))), some (.inl (nI l))], [.inl (slo S l), .inl (nI (se S l)), .inl (nI (sf S l)), .inr (.inr (0, 0, 1))], (I, tk_so J 0 0 (tk_u1 (J 0 0) 1 r), R)) _
      refine dn_run 3 (show tkDn tm_65 (33, [some (.inr (.inr (1, b, 0))), some (.inr (.inr (0, 0, 1))), some (.inl (nI l))], [.inl (nI l), .inr (.inr (1, b, 0)), .inr (.inl (((slo S l) : Int32).toInt64)), .inl (nI (se S l)), .inl (nI (sf S l)), .inr (.inr (0, 0, 1))], (I, tk_so J 0 0 (tk_u1 (J 0 0) 1 r), R)) _ from ?_)
      refine dn_call rfl rfl rfl rfl rfl (sN_linkHigh hP w (j := l) (by omega) ?_)
      show tkDn tm_65 (36, [some (.inr (.inr (1, b, 0))), some (.inr (.inr (0, 0, 1))), some (.inl (nI l))], [.inl (shi S l), .inr (.inl (((slo S l) : Int32).toInt64)), .inl (nI (se S l)), .inl (nI (sf S l)), .inr (.inr (0, 0, 1))], (I, tk_so J 0 0 (tk_u1 (J 0 0) 1 r), R)) _
      refine dn_run 1 (show tkDn tm_65 (37, [some (.inr (.inr (1, b, 0))), some (.inr (.inr (0, 0, 1))), some (.inl (nI l))], [.inr (.inl (((shi S l) : Int32).toInt64)), .inr (.inl (((slo S l) : Int32).toInt64)), .inl (nI (se S l)), .inl (nI (sf S l)), .inr (.inr (0, 0, 1))], (I, tk_so J 0 0 (tk_u1 (J 0 0) 1 r), R)) _ from ?_)
      refine dn_call rfl rfl rfl rfl rfl (ss_lowerBothWays_0_1 (by omega) (by omega) ?_)
      rw [tk_so_so, tk_so_same, tk_u1_u1, tk_u1_same]
      show tkDn tm_65 (40, [some (.inr (.inr (1, b, 0))), some (.inr (.inr (0, 0, 1))), some (.inl (nI l))], [], (I, tk_so J 0 0 (tk_u1 (J 0 0) 1 (low1 (low1 r (16 * sf S l + se S l) (shi S l).toInt64) (16 * se S l + sf S l) (-(slo S l).toInt64))), R)) _
      refine dn_run 2 (show tkDn tm_65 (6, [some (.inr (.inr (1, b, 0))), some (.inr (.inr (0, 0, 1))), some (.inl ((nI l) + 1))], [], (I, tk_so J 0 0 (tk_u1 (J 0 0) 1 (low1 (low1 r (16 * sf S l + se S l) (shi S l).toInt64) (16 * se S l + sf S l) (-(slo S l).toInt64))), R)) _ from ?_)
      rw [nI_1]
      exact ih (l + 1) _ (by omega) ((hr.low (by omega) (by omega) (by omega)).low (by omega) (by omega) (by omega))
theorem ss_ofAllLinks_0_1 {I : tkI} {J : tkJ} {R : Nat → Nat} {Q : tkQ} {b : Nat} {S : tkS} (hP : NetP (I 1 b) S) (w : WF S) (hQ : ∀ r, RowP 16 r (linkM S (sL S)) → Q none (I, tk_so J 0 0 (tk_u1 (J 0 0) 1 r), R)) : tkDn tm_65 (0, [some (.inr (.inr (1, b, 0))), some (.inr (.inr (0, 0, 1))), none], [], (I, J, R)) Q := by
  refine dn_run 1 (show tkDn tm_65 (1, [some (.inr (.inr (1, b, 0))), some (.inr (.inr (0, 0, 1))), none], [.inr (.inr (0, 0, 1))], (I, J, R)) _ from ?_)
  refine dn_call rfl rfl rfl rfl rfl (ss_clear_0_1 (fun r hr => ?_))
  show tkDn tm_65 (4, [some (.inr (.inr (1, b, 0))), some (.inr (.inr (0, 0, 1))), none], [], (I, tk_so J 0 0 (tk_u1 (J 0 0) 1 r), R)) _
  refine dn_run 2 (show tkDn tm_65 (6, [some (.inr (.inr (1, b, 0))), some (.inr (.inr (0, 0, 1))), some (.inl 0)], [], (I, tk_so J 0 0 (tk_u1 (J 0 0) 1 r), R)) _ from ?_)
  exact ss_ofAllLinks_0_1_loop hP w hQ (sL S) 0 r (Nat.zero_add _) hr
theorem ss_ofAllLinks_4_1_loop {I : tkI} {J : tkJ} {R : Nat → Nat} {Q : tkQ} {b : Nat} {S : tkS} (hP : NetP (I 1 b) S) (w : WF S) (hQ : ∀ r, RowP 16 r (linkM S (sL S)) → Q none (I, tk_so J 4 0 (tk_u1 (J 4 0) 1 r), R)) : ∀ n l r, l + n = sL S → RowP 16 r (linkM S l) → tkDn tm_65 (6, [some (.inr (.inr (1, b, 0))), some (.inr (.inr (4, 0, 1))), some (.inl (nI l))], [], (I, tk_so J 4 0 (tk_u1 (J 4 0) 1 r), R)) Q := by
  have hM16 := w.1
  have hL60 := w.2.1
  intro n
  induction n with
  | zero =>
    intro l r hl hr
    show tkDn tm_65 (6, [some (.inr (.inr (1, b, 0))), some (.inr (.inr (4, 0, 1))), some (.inl (nI l))], [], (I, tk_so J 4 0 (tk_u1 (J 4 0) 1 r), R)) _
    refine dn_run 2 (show tkDn tm_65 (8, [some (.inr (.inr (1, b, 0))), some (.inr (.inr (4, 0, 1))), some (.inl (nI l))], [.inr (.inr (1, b, 0)), .inl (nI l)], (I, tk_so J 4 0 (tk_u1 (J 4 0) 1 r), R)) _ from ?_)
    refine dn_call rfl rfl rfl rfl rfl (sN_linkCount hP ?_)
    show tkDn tm_65 (11, [some (.inr (.inr (1, b, 0))), some (.inr (.inr (4, 0, 1))), some (.inl (nI l))], [.inl (nI (sL S)), .inl (nI l)], (I, tk_so J 4 0 (tk_u1 (J 4 0) 1 r), R)) _
    refine dn_if rfl rfl rfl (fun (c : (nI (sL S)) ≤ (nI l)) => ?_) (fun (c : ¬ (nI (sL S)) ≤ (nI l)) => ?_)
    · show tkDn tm_65 (46, [some (.inr (.inr (1, b, 0))), some (.inr (.inr (4, 0, 1))), some (.inl (nI l))], [], (I, tk_so J 4 0 (tk_u1 (J 4 0) 1 r), R)) _
      refine dn_ret0 rfl rfl rfl rfl ?_
      rw [show l = sL S by omega] at hr
      exact hQ r hr
    · exact absurd (nI_le (by omega) (by omega)) c
  | succ n ih =>
    intro l r hl hr
    have hf := w.fM (j := l) (by omega)
    have he := w.eM (j := l) (by omega)
    show tkDn tm_65 (6, [some (.inr (.inr (1, b, 0))), some (.inr (.inr (4, 0, 1))), some (.inl (nI l))], [], (I, tk_so J 4 0 (tk_u1 (J 4 0) 1 r), R)) _
    refine dn_run 2 (show tkDn tm_65 (8, [some (.inr (.inr (1, b, 0))), some (.inr (.inr (4, 0, 1))), some (.inl (nI l))], [.inr (.inr (1, b, 0)), .inl (nI l)], (I, tk_so J 4 0 (tk_u1 (J 4 0) 1 r), R)) _ from ?_)
    refine dn_call rfl rfl rfl rfl rfl (sN_linkCount hP ?_)
    show tkDn tm_65 (11, [some (.inr (.inr (1, b, 0))), some (.inr (.inr (4, 0, 1))), some (.inl (nI l))], [.inl (nI (sL S)), .inl (nI l)], (I, tk_so J 4 0 (tk_u1 (J 4 0) 1 r), R)) _
    refine dn_if rfl rfl rfl (fun (c : (nI (sL S)) ≤ (nI l)) => ?_) (fun (c : ¬ (nI (sL S)) ≤ (nI l)) => ?_)
    · exact absurd c (nI_ge (by omega) (by omega))
    · show tkDn tm_65 (14, [some (.inr (.inr (1, b, 0))), some (.inr (.inr (4, 0, 1))), some (.inl (nI l))], [], (I, tk_so J 4 0 (tk_u1 (J 4 0) 1 r), R)) _
      refine dn_run 3 (show tkDn tm_65 (17, [some (.inr (.inr (1, b, 0))), some (.inr (.inr (4, 0, 1))), some (.inl (nI l))], [.inl (nI l), .inr (.inr (1, b, 0)), .inr (.inr (4, 0, 1))], (I, tk_so J 4 0 (tk_u1 (J 4 0) 1 r), R)) _ from ?_)
      refine dn_call rfl rfl rfl rfl rfl (sN_linkFrom hP w (j := l) (by omega) ?_)
      show tkDn tm_65 (20, [some (.inr (.inr (1, b, 0))), some (.inr (.inr (4, 0, 1))), some (.inl (nI l))], [.inl (nI (sf S l)), .inr (.inr (4, 0, 1))], (I, tk_so J 4 0 (tk_u1 (J 4 0) 1 r), R)) _
      refine dn_run 2 (show tkDn tm_65 (22, [some (.inr (.inr (1, b, 0))), some (.inr (.inr (4, 0, 1))), some (.inl (nI l))], [.inl (nI l), .inr (.inr (1, b, 0)), .inl (nI (sf S l)), .inr (.inr (4, 0, 1))], (I, tk_so J 4 0 (tk_u1 (J 4 0) 1 r), R)) _ from ?_)
      refine dn_call rfl rfl rfl rfl rfl (sN_linkTo hP w (j := l) (by omega) ?_)
      show tkDn tm_65 (25, [some (.inr (.inr (1, b, 0))), some (.inr (.inr (4, 0, 1))), some (.inl (nI l))], [.inl (nI (se S l)), .inl (nI (sf S l)), .inr (.inr (4, 0, 1))], (I, tk_so J 4 0 (tk_u1 (J 4 0) 1 r), R)) _
      refine dn_run 2 (show tkDn tm_65 (27, [some (.inr (.inr (1, b, 0))), some (.inr (.inr (4, 0, 1))), some (.inl (nI l))], [.inl (nI l), .inr (.inr (1, b, 0)), .inl (nI (se S l)), .inl (nI (sf S l)), .inr (.inr (4, 0, 1))], (I, tk_so J 4 0 (tk_u1 (J 4 0) 1 r), R)) _ from ?_)
      refine dn_call rfl rfl rfl rfl rfl (sN_linkLow hP w (j := l) (by omega) ?_)
      show tkDn tm_65 (30, [some (.inr (.inr (1, b, 0))), some (.inr (.inr (4, 0, 1))), some (.inl (nI l))], [.inl (slo S l), .inl (nI (se S l)), .inl (nI (sf S l)), .inr (.inr (4, 0, 1))], (I, tk_so J 4 0 (tk_u1 (J 4 0) 1 r), R)) _
      refine dn_run 3 (show tkDn tm_65 (33, [some (.inr (.inr (1, b, 0))), some (.inr (.inr (4, 0, 1))), some (.inl (nI l))], [.inl (nI l), .inr (.inr (1, b, 0)), .inr (.inl (((slo S l) : Int32).toInt64)), .inl (nI (se S l)), .inl (nI (sf S l)), .inr (.inr (4, 0, 1))], (I, tk_so J 4 0 (tk_u1 (J 4 0) 1 r), R)) _ from ?_)
      refine dn_call rfl rfl rfl rfl rfl (sN_linkHigh hP w (j := l) (by omega) ?_)
      show tkDn tm_65 (36, [some (.inr (.inr (1, b, 0))), some (.inr (.inr (4, 0, 1))), some (.inl (nI l))], [.inl (shi S l), .inr (.inl (((slo S l) : Int32).toInt64)), .inl (nI (se S l)), .inl (nI (sf S l)), .inr (.inr (4, 0, 1))], (I, tk_so J 4 0 (tk_u1 (J 4 0) 1 r), R)) _
      refine dn_run 1 (show tkDn tm_65 (37, [some (.inr (.inr (1, b, 0))), some (.inr (.inr (4, 0, 1))), some (.inl (nI l))], [.inr (.inl (((shi S l) : Int32).toInt64)), .inr (.inl (((slo S l) : Int32).toInt64)), .inl (nI (se S l)), .inl (nI (sf S l)), .inr (.inr (4, 0, 1))], (I, tk_so J 4 0 (tk_u1 (J 4 0) 1 r), R)) _ from ?_)
      refine dn_call rfl rfl rfl rfl rfl (ss_lowerBothWays_4_1 (by omega) (by omega) ?_)
      rw [tk_so_so, tk_so_same, tk_u1_u1, tk_u1_same]
      show tkDn tm_65 (40, [some (.inr (.inr (1, b, 0))), some (.inr (.inr (4, 0, 1))), some (.inl (nI l))], [], (I, tk_so J 4 0 (tk_u1 (J 4 0) 1 (low1 (low1 r (16 * sf S l + se S l) (shi S l).toInt64) (16 * se S l + sf S l) (-(slo S l).toInt64))), R)) _
      refine dn_run 2 (show tkDn tm_65 (6, [some (.inr (.inr (1, b, 0))), some (.inr (.inr (4, 0, 1))), some (.inl ((nI l) + 1))], [], (I, tk_so J 4 0 (tk_u1 (J 4 0) 1 (low1 (low1 r (16 * sf S l + se S l) (shi S l).toInt64) (16 * se S l + sf S l) (-(slo S l).toInt64))), R)) _ from ?_)
      rw [nI_1]
      exact ih (l + 1) _ (by omega) ((hr.low (by omega) (by omega) (by omega)).low (by omega) (by omega) (by omega))
theorem ss_ofAllLinks_4_1 {I : tkI} {J : tkJ} {R : Nat → Nat} {Q : tkQ} {b : Nat} {S : tkS} (hP : NetP (I 1 b) S) (w : WF S) (hQ : ∀ r, RowP 16 r (linkM S (sL S)) → Q none (I, tk_so J 4 0 (tk_u1 (J 4 0) 1 r), R)) : tkDn tm_65 (0, [some (.inr (.inr (1, b, 0))), some (.inr (.inr (4, 0, 1))), none], [], (I, J, R)) Q := by
  refine dn_run 1 (show tkDn tm_65 (1, [some (.inr (.inr (1, b, 0))), some (.inr (.inr (4, 0, 1))), none], [.inr (.inr (4, 0, 1))], (I, J, R)) _ from ?_)
  refine dn_call rfl rfl rfl rfl rfl (ss_clear_4_1 (fun r hr => ?_))
  show tkDn tm_65 (4, [some (.inr (.inr (1, b, 0))), some (.inr (.inr (4, 0, 1))), none], [], (I, tk_so J 4 0 (tk_u1 (J 4 0) 1 r), R)) _
  refine dn_run 2 (show tkDn tm_65 (6, [some (.inr (.inr (1, b, 0))), some (.inr (.inr (4, 0, 1))), some (.inl 0)], [], (I, tk_so J 4 0 (tk_u1 (J 4 0) 1 r), R)) _ from ?_)
  exact ss_ofAllLinks_4_1_loop hP w hQ (sL S) 0 r (Nat.zero_add _) hr
